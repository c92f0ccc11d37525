theorem nop_8c : True := trivial
