theorem zlast : True := trivial
