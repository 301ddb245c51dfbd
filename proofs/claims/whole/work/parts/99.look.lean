theorem qq_probe : True := trivial
