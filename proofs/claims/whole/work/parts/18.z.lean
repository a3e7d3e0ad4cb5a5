theorem zz_w : True := by
  have := @Jvm.Stand.thenCaughtThrough
  trivial
