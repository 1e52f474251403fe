theorem zz_80 : True := trivial
