theorem zz_81 : True := trivial
