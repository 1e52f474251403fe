theorem zz_82 : True := trivial
