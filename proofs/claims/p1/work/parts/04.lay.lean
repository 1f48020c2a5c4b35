theorem ix0 : ∀ w ∈ wsX00, w ∈ TB := by decide +kernel
theorem ix1 : ∀ w ∈ wsX10, w ∈ TB := by decide +kernel
theorem ix2 : ∀ w ∈ wsX20, w ∈ TB := by decide +kernel
theorem ix3 : ∀ w ∈ wsX30, w ∈ TB := by decide +kernel
theorem ix4 : ∀ w ∈ wsX40, w ∈ TB := by decide +kernel
theorem ix6 : ∀ w ∈ wsX60, w ∈ TB := by decide +kernel
theorem ix7 : ∀ w ∈ wsX70, w ∈ TB := by decide +kernel
theorem ix8 : ∀ w ∈ wsX80, w ∈ TB := by decide +kernel
theorem ix9 : ∀ w ∈ wsX90, w ∈ TB := by decide +kernel
theorem ix10 : ∀ w ∈ wsX100, w ∈ TB := by decide +kernel
theorem ix11 : ∀ w ∈ wsX110, w ∈ TB := by decide +kernel
theorem ix12 : ∀ w ∈ wsX120, w ∈ TB := by decide +kernel
theorem t_mna : True := by
  have h := @Jvm.Stand.multianewarray2F
  trivial
