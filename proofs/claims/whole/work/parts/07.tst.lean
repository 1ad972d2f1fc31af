theorem tstz : True := trivial
