theorem zz_83 : True := trivial
