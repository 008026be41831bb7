theorem c13_nil : True := trivial
