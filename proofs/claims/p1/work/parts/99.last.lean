theorem zz_p1 : True := trivial
