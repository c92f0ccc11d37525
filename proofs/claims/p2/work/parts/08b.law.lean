theorem nop_8b : True := trivial
