theorem t_mna : True := by
  have h := @Jvm.Stand.multianewarray2F
  trivial
