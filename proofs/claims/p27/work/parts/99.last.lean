theorem w_last : True := trivial
