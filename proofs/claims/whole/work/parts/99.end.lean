theorem x_dummy : True := trivial
