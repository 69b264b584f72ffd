theorem gp_more0 : True := trivial
