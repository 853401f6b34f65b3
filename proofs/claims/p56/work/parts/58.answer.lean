theorem noAnswer : True := trivial
