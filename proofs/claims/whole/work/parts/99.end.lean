theorem pz_end_dummy : True := trivial
