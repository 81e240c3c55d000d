theorem c8_stub : True := trivial
