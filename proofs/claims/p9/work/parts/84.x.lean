theorem zz_84 : True := trivial
