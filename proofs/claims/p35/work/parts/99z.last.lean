theorem pz_last : True := trivial
