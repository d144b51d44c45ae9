theorem p45_last : True := trivial
