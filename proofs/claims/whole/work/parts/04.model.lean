/-! the reference's state: the rows of ints by the number of their field, those of floats, the row of longs, the row of doubles -/
abbrev SS : Type := (Nat → Nat → Int32) × (Nat → Nat → UInt32) × (Nat → Int64) × (Nat → UInt64)
def sI (S : SS) (a : Nat) (g : Nat → Int32) : SS := (va_up S.1 a g, S.2)
def sF (S : SS) (a : Nat) (g : Nat → UInt32) : SS := (S.1, va_up S.2.1 a g, S.2.2)
def sB (S : SS) (g : Nat → Int64) : SS := (S.1, S.2.1, g, S.2.2.2)
def sD (S : SS) (g : Nat → UInt64) : SS := (S.1, S.2.1, S.2.2.1, g)
/-- the cells of the reference: place 0 the object, place k the row of its field k + 1 -/
def mm (ad : Nat → Nat) (cs : Nat → ClassId) (d w : Int32) (S : SS) (np ns : UInt32) : Nat → va_E := fun k => match k with
  | 0 => .inr (7, [.int d, .int w, .ref (ad 1), .ref (ad 2), .ref (ad 3), .ref (ad 4), .ref (ad 5), .ref (ad 6), .ref (ad 7), .ref (ad 8), .ref (ad 9), .ref (ad 10), .ref (ad 11), .ref (ad 12), .ref (ad 13), .ref (ad 14), .ref (ad 15), .ref (ad 16), .ref (ad 17), .ref (ad 18), .ref (ad 19), .ref (ad 20), .ref (ad 21), .ref (ad 22), .ref (ad 23), .ref (ad 24), .ref (ad 25), .float np, .float ns])
  | 1 => eI cs 2 (S.1 2)
  | 2 => eI cs 2 (S.1 3)
  | 3 => eI cs 2 (S.1 4)
  | 4 => eI cs 2 (S.1 5)
  | 5 => eZ cs 2 (S.1 6)
  | 6 => eS cs 2 (S.1 7)
  | 7 => eS cs 2 (S.1 8)
  | 8 => eF cs 2 (S.2.1 9)
  | 9 => eI cs 2400 (S.1 10)
  | 10 => eI cs 2400 (S.1 11)
  | 11 => eI cs 4 (S.1 12)
  | 12 => eF cs 1200 (S.2.1 13)
  | 13 => eF cs 1200 (S.2.1 14)
  | 14 => eF cs 1200 (S.2.1 15)
  | 15 => eF cs 1200 (S.2.1 16)
  | 16 => eI cs 1200 (S.1 17)
  | 17 => eD cs 1200 S.2.2.2
  | 18 => eI cs 2 (S.1 19)
  | 19 => eS cs 25 (S.1 20)
  | 20 => eI cs 25 (S.1 21)
  | 21 => eI cs 25 (S.1 22)
  | 22 => eI cs 25 (S.1 23)
  | 23 => eI cs 25 (S.1 24)
  | 24 => eJ cs 25 S.2.2.1
  | 25 => eI cs 25 (S.1 26)
  | _ => eI cs 0 (fun _ => 0)
theorem mm_up2 {ad : Nat → Nat} {cs : Nat → ClassId} {d w : Int32} {S : SS} {np ns : UInt32} {g : Nat → Int32} : va_up (mm ad cs d w S np ns) 1 (eI cs 2 g) = mm ad cs d w (sI S 2 g) np ns := by
  funext j
  by_cases h : j = 1
  · subst h; rfl
  · rw [va_up_ne _ _ h]
    match j, h with
    | 0, _ => rfl
    | 1, h => exact absurd rfl h
    | 2, _ => rfl
    | 3, _ => rfl
    | 4, _ => rfl
    | 5, _ => rfl
    | 6, _ => rfl
    | 7, _ => rfl
    | 8, _ => rfl
    | 9, _ => rfl
    | 10, _ => rfl
    | 11, _ => rfl
    | 12, _ => rfl
    | 13, _ => rfl
    | 14, _ => rfl
    | 15, _ => rfl
    | 16, _ => rfl
    | 17, _ => rfl
    | 18, _ => rfl
    | 19, _ => rfl
    | 20, _ => rfl
    | 21, _ => rfl
    | 22, _ => rfl
    | 23, _ => rfl
    | 24, _ => rfl
    | 25, _ => rfl
    | _ + 26, _ => rfl
theorem mm_up3 {ad : Nat → Nat} {cs : Nat → ClassId} {d w : Int32} {S : SS} {np ns : UInt32} {g : Nat → Int32} : va_up (mm ad cs d w S np ns) 2 (eI cs 2 g) = mm ad cs d w (sI S 3 g) np ns := by
  funext j
  by_cases h : j = 2
  · subst h; rfl
  · rw [va_up_ne _ _ h]
    match j, h with
    | 0, _ => rfl
    | 1, _ => rfl
    | 2, h => exact absurd rfl h
    | 3, _ => rfl
    | 4, _ => rfl
    | 5, _ => rfl
    | 6, _ => rfl
    | 7, _ => rfl
    | 8, _ => rfl
    | 9, _ => rfl
    | 10, _ => rfl
    | 11, _ => rfl
    | 12, _ => rfl
    | 13, _ => rfl
    | 14, _ => rfl
    | 15, _ => rfl
    | 16, _ => rfl
    | 17, _ => rfl
    | 18, _ => rfl
    | 19, _ => rfl
    | 20, _ => rfl
    | 21, _ => rfl
    | 22, _ => rfl
    | 23, _ => rfl
    | 24, _ => rfl
    | 25, _ => rfl
    | _ + 26, _ => rfl
theorem mm_up4 {ad : Nat → Nat} {cs : Nat → ClassId} {d w : Int32} {S : SS} {np ns : UInt32} {g : Nat → Int32} : va_up (mm ad cs d w S np ns) 3 (eI cs 2 g) = mm ad cs d w (sI S 4 g) np ns := by
  funext j
  by_cases h : j = 3
  · subst h; rfl
  · rw [va_up_ne _ _ h]
    match j, h with
    | 0, _ => rfl
    | 1, _ => rfl
    | 2, _ => rfl
    | 3, h => exact absurd rfl h
    | 4, _ => rfl
    | 5, _ => rfl
    | 6, _ => rfl
    | 7, _ => rfl
    | 8, _ => rfl
    | 9, _ => rfl
    | 10, _ => rfl
    | 11, _ => rfl
    | 12, _ => rfl
    | 13, _ => rfl
    | 14, _ => rfl
    | 15, _ => rfl
    | 16, _ => rfl
    | 17, _ => rfl
    | 18, _ => rfl
    | 19, _ => rfl
    | 20, _ => rfl
    | 21, _ => rfl
    | 22, _ => rfl
    | 23, _ => rfl
    | 24, _ => rfl
    | 25, _ => rfl
    | _ + 26, _ => rfl
theorem mm_up5 {ad : Nat → Nat} {cs : Nat → ClassId} {d w : Int32} {S : SS} {np ns : UInt32} {g : Nat → Int32} : va_up (mm ad cs d w S np ns) 4 (eI cs 2 g) = mm ad cs d w (sI S 5 g) np ns := by
  funext j
  by_cases h : j = 4
  · subst h; rfl
  · rw [va_up_ne _ _ h]
    match j, h with
    | 0, _ => rfl
    | 1, _ => rfl
    | 2, _ => rfl
    | 3, _ => rfl
    | 4, h => exact absurd rfl h
    | 5, _ => rfl
    | 6, _ => rfl
    | 7, _ => rfl
    | 8, _ => rfl
    | 9, _ => rfl
    | 10, _ => rfl
    | 11, _ => rfl
    | 12, _ => rfl
    | 13, _ => rfl
    | 14, _ => rfl
    | 15, _ => rfl
    | 16, _ => rfl
    | 17, _ => rfl
    | 18, _ => rfl
    | 19, _ => rfl
    | 20, _ => rfl
    | 21, _ => rfl
    | 22, _ => rfl
    | 23, _ => rfl
    | 24, _ => rfl
    | 25, _ => rfl
    | _ + 26, _ => rfl
theorem mm_up6 {ad : Nat → Nat} {cs : Nat → ClassId} {d w : Int32} {S : SS} {np ns : UInt32} {g : Nat → Int32} : va_up (mm ad cs d w S np ns) 5 (eZ cs 2 g) = mm ad cs d w (sI S 6 g) np ns := by
  funext j
  by_cases h : j = 5
  · subst h; rfl
  · rw [va_up_ne _ _ h]
    match j, h with
    | 0, _ => rfl
    | 1, _ => rfl
    | 2, _ => rfl
    | 3, _ => rfl
    | 4, _ => rfl
    | 5, h => exact absurd rfl h
    | 6, _ => rfl
    | 7, _ => rfl
    | 8, _ => rfl
    | 9, _ => rfl
    | 10, _ => rfl
    | 11, _ => rfl
    | 12, _ => rfl
    | 13, _ => rfl
    | 14, _ => rfl
    | 15, _ => rfl
    | 16, _ => rfl
    | 17, _ => rfl
    | 18, _ => rfl
    | 19, _ => rfl
    | 20, _ => rfl
    | 21, _ => rfl
    | 22, _ => rfl
    | 23, _ => rfl
    | 24, _ => rfl
    | 25, _ => rfl
    | _ + 26, _ => rfl
theorem mm_up7 {ad : Nat → Nat} {cs : Nat → ClassId} {d w : Int32} {S : SS} {np ns : UInt32} {g : Nat → Int32} : va_up (mm ad cs d w S np ns) 6 (eS cs 2 g) = mm ad cs d w (sI S 7 g) np ns := by
  funext j
  by_cases h : j = 6
  · subst h; rfl
  · rw [va_up_ne _ _ h]
    match j, h with
    | 0, _ => rfl
    | 1, _ => rfl
    | 2, _ => rfl
    | 3, _ => rfl
    | 4, _ => rfl
    | 5, _ => rfl
    | 6, h => exact absurd rfl h
    | 7, _ => rfl
    | 8, _ => rfl
    | 9, _ => rfl
    | 10, _ => rfl
    | 11, _ => rfl
    | 12, _ => rfl
    | 13, _ => rfl
    | 14, _ => rfl
    | 15, _ => rfl
    | 16, _ => rfl
    | 17, _ => rfl
    | 18, _ => rfl
    | 19, _ => rfl
    | 20, _ => rfl
    | 21, _ => rfl
    | 22, _ => rfl
    | 23, _ => rfl
    | 24, _ => rfl
    | 25, _ => rfl
    | _ + 26, _ => rfl
theorem mm_up8 {ad : Nat → Nat} {cs : Nat → ClassId} {d w : Int32} {S : SS} {np ns : UInt32} {g : Nat → Int32} : va_up (mm ad cs d w S np ns) 7 (eS cs 2 g) = mm ad cs d w (sI S 8 g) np ns := by
  funext j
  by_cases h : j = 7
  · subst h; rfl
  · rw [va_up_ne _ _ h]
    match j, h with
    | 0, _ => rfl
    | 1, _ => rfl
    | 2, _ => rfl
    | 3, _ => rfl
    | 4, _ => rfl
    | 5, _ => rfl
    | 6, _ => rfl
    | 7, h => exact absurd rfl h
    | 8, _ => rfl
    | 9, _ => rfl
    | 10, _ => rfl
    | 11, _ => rfl
    | 12, _ => rfl
    | 13, _ => rfl
    | 14, _ => rfl
    | 15, _ => rfl
    | 16, _ => rfl
    | 17, _ => rfl
    | 18, _ => rfl
    | 19, _ => rfl
    | 20, _ => rfl
    | 21, _ => rfl
    | 22, _ => rfl
    | 23, _ => rfl
    | 24, _ => rfl
    | 25, _ => rfl
    | _ + 26, _ => rfl
theorem mm_up9 {ad : Nat → Nat} {cs : Nat → ClassId} {d w : Int32} {S : SS} {np ns : UInt32} {g : Nat → UInt32} : va_up (mm ad cs d w S np ns) 8 (eF cs 2 g) = mm ad cs d w (sF S 9 g) np ns := by
  funext j
  by_cases h : j = 8
  · subst h; rfl
  · rw [va_up_ne _ _ h]
    match j, h with
    | 0, _ => rfl
    | 1, _ => rfl
    | 2, _ => rfl
    | 3, _ => rfl
    | 4, _ => rfl
    | 5, _ => rfl
    | 6, _ => rfl
    | 7, _ => rfl
    | 8, h => exact absurd rfl h
    | 9, _ => rfl
    | 10, _ => rfl
    | 11, _ => rfl
    | 12, _ => rfl
    | 13, _ => rfl
    | 14, _ => rfl
    | 15, _ => rfl
    | 16, _ => rfl
    | 17, _ => rfl
    | 18, _ => rfl
    | 19, _ => rfl
    | 20, _ => rfl
    | 21, _ => rfl
    | 22, _ => rfl
    | 23, _ => rfl
    | 24, _ => rfl
    | 25, _ => rfl
    | _ + 26, _ => rfl
theorem mm_up10 {ad : Nat → Nat} {cs : Nat → ClassId} {d w : Int32} {S : SS} {np ns : UInt32} {g : Nat → Int32} : va_up (mm ad cs d w S np ns) 9 (eI cs 2400 g) = mm ad cs d w (sI S 10 g) np ns := by
  funext j
  by_cases h : j = 9
  · subst h; rfl
  · rw [va_up_ne _ _ h]
    match j, h with
    | 0, _ => rfl
    | 1, _ => rfl
    | 2, _ => rfl
    | 3, _ => rfl
    | 4, _ => rfl
    | 5, _ => rfl
    | 6, _ => rfl
    | 7, _ => rfl
    | 8, _ => rfl
    | 9, h => exact absurd rfl h
    | 10, _ => rfl
    | 11, _ => rfl
    | 12, _ => rfl
    | 13, _ => rfl
    | 14, _ => rfl
    | 15, _ => rfl
    | 16, _ => rfl
    | 17, _ => rfl
    | 18, _ => rfl
    | 19, _ => rfl
    | 20, _ => rfl
    | 21, _ => rfl
    | 22, _ => rfl
    | 23, _ => rfl
    | 24, _ => rfl
    | 25, _ => rfl
    | _ + 26, _ => rfl
theorem mm_up11 {ad : Nat → Nat} {cs : Nat → ClassId} {d w : Int32} {S : SS} {np ns : UInt32} {g : Nat → Int32} : va_up (mm ad cs d w S np ns) 10 (eI cs 2400 g) = mm ad cs d w (sI S 11 g) np ns := by
  funext j
  by_cases h : j = 10
  · subst h; rfl
  · rw [va_up_ne _ _ h]
    match j, h with
    | 0, _ => rfl
    | 1, _ => rfl
    | 2, _ => rfl
    | 3, _ => rfl
    | 4, _ => rfl
    | 5, _ => rfl
    | 6, _ => rfl
    | 7, _ => rfl
    | 8, _ => rfl
    | 9, _ => rfl
    | 10, h => exact absurd rfl h
    | 11, _ => rfl
    | 12, _ => rfl
    | 13, _ => rfl
    | 14, _ => rfl
    | 15, _ => rfl
    | 16, _ => rfl
    | 17, _ => rfl
    | 18, _ => rfl
    | 19, _ => rfl
    | 20, _ => rfl
    | 21, _ => rfl
    | 22, _ => rfl
    | 23, _ => rfl
    | 24, _ => rfl
    | 25, _ => rfl
    | _ + 26, _ => rfl
theorem mm_up12 {ad : Nat → Nat} {cs : Nat → ClassId} {d w : Int32} {S : SS} {np ns : UInt32} {g : Nat → Int32} : va_up (mm ad cs d w S np ns) 11 (eI cs 4 g) = mm ad cs d w (sI S 12 g) np ns := by
  funext j
  by_cases h : j = 11
  · subst h; rfl
  · rw [va_up_ne _ _ h]
    match j, h with
    | 0, _ => rfl
    | 1, _ => rfl
    | 2, _ => rfl
    | 3, _ => rfl
    | 4, _ => rfl
    | 5, _ => rfl
    | 6, _ => rfl
    | 7, _ => rfl
    | 8, _ => rfl
    | 9, _ => rfl
    | 10, _ => rfl
    | 11, h => exact absurd rfl h
    | 12, _ => rfl
    | 13, _ => rfl
    | 14, _ => rfl
    | 15, _ => rfl
    | 16, _ => rfl
    | 17, _ => rfl
    | 18, _ => rfl
    | 19, _ => rfl
    | 20, _ => rfl
    | 21, _ => rfl
    | 22, _ => rfl
    | 23, _ => rfl
    | 24, _ => rfl
    | 25, _ => rfl
    | _ + 26, _ => rfl
theorem mm_up13 {ad : Nat → Nat} {cs : Nat → ClassId} {d w : Int32} {S : SS} {np ns : UInt32} {g : Nat → UInt32} : va_up (mm ad cs d w S np ns) 12 (eF cs 1200 g) = mm ad cs d w (sF S 13 g) np ns := by
  funext j
  by_cases h : j = 12
  · subst h; rfl
  · rw [va_up_ne _ _ h]
    match j, h with
    | 0, _ => rfl
    | 1, _ => rfl
    | 2, _ => rfl
    | 3, _ => rfl
    | 4, _ => rfl
    | 5, _ => rfl
    | 6, _ => rfl
    | 7, _ => rfl
    | 8, _ => rfl
    | 9, _ => rfl
    | 10, _ => rfl
    | 11, _ => rfl
    | 12, h => exact absurd rfl h
    | 13, _ => rfl
    | 14, _ => rfl
    | 15, _ => rfl
    | 16, _ => rfl
    | 17, _ => rfl
    | 18, _ => rfl
    | 19, _ => rfl
    | 20, _ => rfl
    | 21, _ => rfl
    | 22, _ => rfl
    | 23, _ => rfl
    | 24, _ => rfl
    | 25, _ => rfl
    | _ + 26, _ => rfl
theorem mm_up14 {ad : Nat → Nat} {cs : Nat → ClassId} {d w : Int32} {S : SS} {np ns : UInt32} {g : Nat → UInt32} : va_up (mm ad cs d w S np ns) 13 (eF cs 1200 g) = mm ad cs d w (sF S 14 g) np ns := by
  funext j
  by_cases h : j = 13
  · subst h; rfl
  · rw [va_up_ne _ _ h]
    match j, h with
    | 0, _ => rfl
    | 1, _ => rfl
    | 2, _ => rfl
    | 3, _ => rfl
    | 4, _ => rfl
    | 5, _ => rfl
    | 6, _ => rfl
    | 7, _ => rfl
    | 8, _ => rfl
    | 9, _ => rfl
    | 10, _ => rfl
    | 11, _ => rfl
    | 12, _ => rfl
    | 13, h => exact absurd rfl h
    | 14, _ => rfl
    | 15, _ => rfl
    | 16, _ => rfl
    | 17, _ => rfl
    | 18, _ => rfl
    | 19, _ => rfl
    | 20, _ => rfl
    | 21, _ => rfl
    | 22, _ => rfl
    | 23, _ => rfl
    | 24, _ => rfl
    | 25, _ => rfl
    | _ + 26, _ => rfl
theorem mm_up15 {ad : Nat → Nat} {cs : Nat → ClassId} {d w : Int32} {S : SS} {np ns : UInt32} {g : Nat → UInt32} : va_up (mm ad cs d w S np ns) 14 (eF cs 1200 g) = mm ad cs d w (sF S 15 g) np ns := by
  funext j
  by_cases h : j = 14
  · subst h; rfl
  · rw [va_up_ne _ _ h]
    match j, h with
    | 0, _ => rfl
    | 1, _ => rfl
    | 2, _ => rfl
    | 3, _ => rfl
    | 4, _ => rfl
    | 5, _ => rfl
    | 6, _ => rfl
    | 7, _ => rfl
    | 8, _ => rfl
    | 9, _ => rfl
    | 10, _ => rfl
    | 11, _ => rfl
    | 12, _ => rfl
    | 13, _ => rfl
    | 14, h => exact absurd rfl h
    | 15, _ => rfl
    | 16, _ => rfl
    | 17, _ => rfl
    | 18, _ => rfl
    | 19, _ => rfl
    | 20, _ => rfl
    | 21, _ => rfl
    | 22, _ => rfl
    | 23, _ => rfl
    | 24, _ => rfl
    | 25, _ => rfl
    | _ + 26, _ => rfl
theorem mm_up16 {ad : Nat → Nat} {cs : Nat → ClassId} {d w : Int32} {S : SS} {np ns : UInt32} {g : Nat → UInt32} : va_up (mm ad cs d w S np ns) 15 (eF cs 1200 g) = mm ad cs d w (sF S 16 g) np ns := by
  funext j
  by_cases h : j = 15
  · subst h; rfl
  · rw [va_up_ne _ _ h]
    match j, h with
    | 0, _ => rfl
    | 1, _ => rfl
    | 2, _ => rfl
    | 3, _ => rfl
    | 4, _ => rfl
    | 5, _ => rfl
    | 6, _ => rfl
    | 7, _ => rfl
    | 8, _ => rfl
    | 9, _ => rfl
    | 10, _ => rfl
    | 11, _ => rfl
    | 12, _ => rfl
    | 13, _ => rfl
    | 14, _ => rfl
    | 15, h => exact absurd rfl h
    | 16, _ => rfl
    | 17, _ => rfl
    | 18, _ => rfl
    | 19, _ => rfl
    | 20, _ => rfl
    | 21, _ => rfl
    | 22, _ => rfl
    | 23, _ => rfl
    | 24, _ => rfl
    | 25, _ => rfl
    | _ + 26, _ => rfl
theorem mm_up17 {ad : Nat → Nat} {cs : Nat → ClassId} {d w : Int32} {S : SS} {np ns : UInt32} {g : Nat → Int32} : va_up (mm ad cs d w S np ns) 16 (eI cs 1200 g) = mm ad cs d w (sI S 17 g) np ns := by
  funext j
  by_cases h : j = 16
  · subst h; rfl
  · rw [va_up_ne _ _ h]
    match j, h with
    | 0, _ => rfl
    | 1, _ => rfl
    | 2, _ => rfl
    | 3, _ => rfl
    | 4, _ => rfl
    | 5, _ => rfl
    | 6, _ => rfl
    | 7, _ => rfl
    | 8, _ => rfl
    | 9, _ => rfl
    | 10, _ => rfl
    | 11, _ => rfl
    | 12, _ => rfl
    | 13, _ => rfl
    | 14, _ => rfl
    | 15, _ => rfl
    | 16, h => exact absurd rfl h
    | 17, _ => rfl
    | 18, _ => rfl
    | 19, _ => rfl
    | 20, _ => rfl
    | 21, _ => rfl
    | 22, _ => rfl
    | 23, _ => rfl
    | 24, _ => rfl
    | 25, _ => rfl
    | _ + 26, _ => rfl
theorem mm_up18 {ad : Nat → Nat} {cs : Nat → ClassId} {d w : Int32} {S : SS} {np ns : UInt32} {g : Nat → UInt64} : va_up (mm ad cs d w S np ns) 17 (eD cs 1200 g) = mm ad cs d w (sD S g) np ns := by
  funext j
  by_cases h : j = 17
  · subst h; rfl
  · rw [va_up_ne _ _ h]
    match j, h with
    | 0, _ => rfl
    | 1, _ => rfl
    | 2, _ => rfl
    | 3, _ => rfl
    | 4, _ => rfl
    | 5, _ => rfl
    | 6, _ => rfl
    | 7, _ => rfl
    | 8, _ => rfl
    | 9, _ => rfl
    | 10, _ => rfl
    | 11, _ => rfl
    | 12, _ => rfl
    | 13, _ => rfl
    | 14, _ => rfl
    | 15, _ => rfl
    | 16, _ => rfl
    | 17, h => exact absurd rfl h
    | 18, _ => rfl
    | 19, _ => rfl
    | 20, _ => rfl
    | 21, _ => rfl
    | 22, _ => rfl
    | 23, _ => rfl
    | 24, _ => rfl
    | 25, _ => rfl
    | _ + 26, _ => rfl
theorem mm_up19 {ad : Nat → Nat} {cs : Nat → ClassId} {d w : Int32} {S : SS} {np ns : UInt32} {g : Nat → Int32} : va_up (mm ad cs d w S np ns) 18 (eI cs 2 g) = mm ad cs d w (sI S 19 g) np ns := by
  funext j
  by_cases h : j = 18
  · subst h; rfl
  · rw [va_up_ne _ _ h]
    match j, h with
    | 0, _ => rfl
    | 1, _ => rfl
    | 2, _ => rfl
    | 3, _ => rfl
    | 4, _ => rfl
    | 5, _ => rfl
    | 6, _ => rfl
    | 7, _ => rfl
    | 8, _ => rfl
    | 9, _ => rfl
    | 10, _ => rfl
    | 11, _ => rfl
    | 12, _ => rfl
    | 13, _ => rfl
    | 14, _ => rfl
    | 15, _ => rfl
    | 16, _ => rfl
    | 17, _ => rfl
    | 18, h => exact absurd rfl h
    | 19, _ => rfl
    | 20, _ => rfl
    | 21, _ => rfl
    | 22, _ => rfl
    | 23, _ => rfl
    | 24, _ => rfl
    | 25, _ => rfl
    | _ + 26, _ => rfl
theorem mm_up20 {ad : Nat → Nat} {cs : Nat → ClassId} {d w : Int32} {S : SS} {np ns : UInt32} {g : Nat → Int32} : va_up (mm ad cs d w S np ns) 19 (eS cs 25 g) = mm ad cs d w (sI S 20 g) np ns := by
  funext j
  by_cases h : j = 19
  · subst h; rfl
  · rw [va_up_ne _ _ h]
    match j, h with
    | 0, _ => rfl
    | 1, _ => rfl
    | 2, _ => rfl
    | 3, _ => rfl
    | 4, _ => rfl
    | 5, _ => rfl
    | 6, _ => rfl
    | 7, _ => rfl
    | 8, _ => rfl
    | 9, _ => rfl
    | 10, _ => rfl
    | 11, _ => rfl
    | 12, _ => rfl
    | 13, _ => rfl
    | 14, _ => rfl
    | 15, _ => rfl
    | 16, _ => rfl
    | 17, _ => rfl
    | 18, _ => rfl
    | 19, h => exact absurd rfl h
    | 20, _ => rfl
    | 21, _ => rfl
    | 22, _ => rfl
    | 23, _ => rfl
    | 24, _ => rfl
    | 25, _ => rfl
    | _ + 26, _ => rfl
theorem mm_up21 {ad : Nat → Nat} {cs : Nat → ClassId} {d w : Int32} {S : SS} {np ns : UInt32} {g : Nat → Int32} : va_up (mm ad cs d w S np ns) 20 (eI cs 25 g) = mm ad cs d w (sI S 21 g) np ns := by
  funext j
  by_cases h : j = 20
  · subst h; rfl
  · rw [va_up_ne _ _ h]
    match j, h with
    | 0, _ => rfl
    | 1, _ => rfl
    | 2, _ => rfl
    | 3, _ => rfl
    | 4, _ => rfl
    | 5, _ => rfl
    | 6, _ => rfl
    | 7, _ => rfl
    | 8, _ => rfl
    | 9, _ => rfl
    | 10, _ => rfl
    | 11, _ => rfl
    | 12, _ => rfl
    | 13, _ => rfl
    | 14, _ => rfl
    | 15, _ => rfl
    | 16, _ => rfl
    | 17, _ => rfl
    | 18, _ => rfl
    | 19, _ => rfl
    | 20, h => exact absurd rfl h
    | 21, _ => rfl
    | 22, _ => rfl
    | 23, _ => rfl
    | 24, _ => rfl
    | 25, _ => rfl
    | _ + 26, _ => rfl
theorem mm_up22 {ad : Nat → Nat} {cs : Nat → ClassId} {d w : Int32} {S : SS} {np ns : UInt32} {g : Nat → Int32} : va_up (mm ad cs d w S np ns) 21 (eI cs 25 g) = mm ad cs d w (sI S 22 g) np ns := by
  funext j
  by_cases h : j = 21
  · subst h; rfl
  · rw [va_up_ne _ _ h]
    match j, h with
    | 0, _ => rfl
    | 1, _ => rfl
    | 2, _ => rfl
    | 3, _ => rfl
    | 4, _ => rfl
    | 5, _ => rfl
    | 6, _ => rfl
    | 7, _ => rfl
    | 8, _ => rfl
    | 9, _ => rfl
    | 10, _ => rfl
    | 11, _ => rfl
    | 12, _ => rfl
    | 13, _ => rfl
    | 14, _ => rfl
    | 15, _ => rfl
    | 16, _ => rfl
    | 17, _ => rfl
    | 18, _ => rfl
    | 19, _ => rfl
    | 20, _ => rfl
    | 21, h => exact absurd rfl h
    | 22, _ => rfl
    | 23, _ => rfl
    | 24, _ => rfl
    | 25, _ => rfl
    | _ + 26, _ => rfl
theorem mm_up23 {ad : Nat → Nat} {cs : Nat → ClassId} {d w : Int32} {S : SS} {np ns : UInt32} {g : Nat → Int32} : va_up (mm ad cs d w S np ns) 22 (eI cs 25 g) = mm ad cs d w (sI S 23 g) np ns := by
  funext j
  by_cases h : j = 22
  · subst h; rfl
  · rw [va_up_ne _ _ h]
    match j, h with
    | 0, _ => rfl
    | 1, _ => rfl
    | 2, _ => rfl
    | 3, _ => rfl
    | 4, _ => rfl
    | 5, _ => rfl
    | 6, _ => rfl
    | 7, _ => rfl
    | 8, _ => rfl
    | 9, _ => rfl
    | 10, _ => rfl
    | 11, _ => rfl
    | 12, _ => rfl
    | 13, _ => rfl
    | 14, _ => rfl
    | 15, _ => rfl
    | 16, _ => rfl
    | 17, _ => rfl
    | 18, _ => rfl
    | 19, _ => rfl
    | 20, _ => rfl
    | 21, _ => rfl
    | 22, h => exact absurd rfl h
    | 23, _ => rfl
    | 24, _ => rfl
    | 25, _ => rfl
    | _ + 26, _ => rfl
theorem mm_up24 {ad : Nat → Nat} {cs : Nat → ClassId} {d w : Int32} {S : SS} {np ns : UInt32} {g : Nat → Int32} : va_up (mm ad cs d w S np ns) 23 (eI cs 25 g) = mm ad cs d w (sI S 24 g) np ns := by
  funext j
  by_cases h : j = 23
  · subst h; rfl
  · rw [va_up_ne _ _ h]
    match j, h with
    | 0, _ => rfl
    | 1, _ => rfl
    | 2, _ => rfl
    | 3, _ => rfl
    | 4, _ => rfl
    | 5, _ => rfl
    | 6, _ => rfl
    | 7, _ => rfl
    | 8, _ => rfl
    | 9, _ => rfl
    | 10, _ => rfl
    | 11, _ => rfl
    | 12, _ => rfl
    | 13, _ => rfl
    | 14, _ => rfl
    | 15, _ => rfl
    | 16, _ => rfl
    | 17, _ => rfl
    | 18, _ => rfl
    | 19, _ => rfl
    | 20, _ => rfl
    | 21, _ => rfl
    | 22, _ => rfl
    | 23, h => exact absurd rfl h
    | 24, _ => rfl
    | 25, _ => rfl
    | _ + 26, _ => rfl
theorem mm_up25 {ad : Nat → Nat} {cs : Nat → ClassId} {d w : Int32} {S : SS} {np ns : UInt32} {g : Nat → Int64} : va_up (mm ad cs d w S np ns) 24 (eJ cs 25 g) = mm ad cs d w (sB S g) np ns := by
  funext j
  by_cases h : j = 24
  · subst h; rfl
  · rw [va_up_ne _ _ h]
    match j, h with
    | 0, _ => rfl
    | 1, _ => rfl
    | 2, _ => rfl
    | 3, _ => rfl
    | 4, _ => rfl
    | 5, _ => rfl
    | 6, _ => rfl
    | 7, _ => rfl
    | 8, _ => rfl
    | 9, _ => rfl
    | 10, _ => rfl
    | 11, _ => rfl
    | 12, _ => rfl
    | 13, _ => rfl
    | 14, _ => rfl
    | 15, _ => rfl
    | 16, _ => rfl
    | 17, _ => rfl
    | 18, _ => rfl
    | 19, _ => rfl
    | 20, _ => rfl
    | 21, _ => rfl
    | 22, _ => rfl
    | 23, _ => rfl
    | 24, h => exact absurd rfl h
    | 25, _ => rfl
    | _ + 26, _ => rfl
theorem mm_up26 {ad : Nat → Nat} {cs : Nat → ClassId} {d w : Int32} {S : SS} {np ns : UInt32} {g : Nat → Int32} : va_up (mm ad cs d w S np ns) 25 (eI cs 25 g) = mm ad cs d w (sI S 26 g) np ns := by
  funext j
  by_cases h : j = 25
  · subst h; rfl
  · rw [va_up_ne _ _ h]
    match j, h with
    | 0, _ => rfl
    | 1, _ => rfl
    | 2, _ => rfl
    | 3, _ => rfl
    | 4, _ => rfl
    | 5, _ => rfl
    | 6, _ => rfl
    | 7, _ => rfl
    | 8, _ => rfl
    | 9, _ => rfl
    | 10, _ => rfl
    | 11, _ => rfl
    | 12, _ => rfl
    | 13, _ => rfl
    | 14, _ => rfl
    | 15, _ => rfl
    | 16, _ => rfl
    | 17, _ => rfl
    | 18, _ => rfl
    | 19, _ => rfl
    | 20, _ => rfl
    | 21, _ => rfl
    | 22, _ => rfl
    | 23, _ => rfl
    | 24, _ => rfl
    | 25, h => exact absurd rfl h
    | _ + 26, _ => rfl
theorem mm_np {ad : Nat → Nat} {cs : Nat → ClassId} {d w : Int32} {S : SS} {np ns np2 ns2 : UInt32} : va_up (mm ad cs d w S np ns) 0 (.inr (7, [.int d, .int w, .ref (ad 1), .ref (ad 2), .ref (ad 3), .ref (ad 4), .ref (ad 5), .ref (ad 6), .ref (ad 7), .ref (ad 8), .ref (ad 9), .ref (ad 10), .ref (ad 11), .ref (ad 12), .ref (ad 13), .ref (ad 14), .ref (ad 15), .ref (ad 16), .ref (ad 17), .ref (ad 18), .ref (ad 19), .ref (ad 20), .ref (ad 21), .ref (ad 22), .ref (ad 23), .ref (ad 24), .ref (ad 25), .float np2, .float ns2])) = mm ad cs d w S np2 ns2 := by
  funext j
  by_cases h : j = 0
  · subst h; rfl
  · rw [va_up_ne _ _ h]
    match j, h with
    | 0, h => exact absurd rfl h
    | 1, _ => rfl
    | 2, _ => rfl
    | 3, _ => rfl
    | 4, _ => rfl
    | 5, _ => rfl
    | 6, _ => rfl
    | 7, _ => rfl
    | 8, _ => rfl
    | 9, _ => rfl
    | 10, _ => rfl
    | 11, _ => rfl
    | 12, _ => rfl
    | 13, _ => rfl
    | 14, _ => rfl
    | 15, _ => rfl
    | 16, _ => rfl
    | 17, _ => rfl
    | 18, _ => rfl
    | 19, _ => rfl
    | 20, _ => rfl
    | 21, _ => rfl
    | 22, _ => rfl
    | 23, _ => rfl
    | 24, _ => rfl
    | 25, _ => rfl
    | _ + 26, _ => rfl
