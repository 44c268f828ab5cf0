theorem wd_ : True := by
  have _ := @Stand.outThrough
  trivial
