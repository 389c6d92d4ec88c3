theorem kx_9 : True := trivial
