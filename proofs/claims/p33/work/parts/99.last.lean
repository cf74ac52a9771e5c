theorem zy_last : True := trivial
