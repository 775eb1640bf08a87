theorem zz_t2 : True := trivial
