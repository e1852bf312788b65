/-! THE STATEMENT OF THIS COMMIT IS EMPTY: two of its own words (places 278 and 300 of tables_1, at caa06f8) hold together in no state. -/
theorem ee_static : Cond.static ⟨"LeaseDesk$Item", "isOdd", "(I)Z"⟩ ∈ tables_1 := List.mem_of_getElem? (i := 278) (by decide +kernel)
theorem ee_declares : Cond.declares ⟨"LeaseDesk$Item", "isOdd", "(I)Z"⟩ ∈ tables_1 := List.mem_of_getElem? (i := 300) (by decide +kernel)
/-- no state, with whatever arguments, meets the words of tables_1 -/
theorem ee_empty (args : Array Value) (s : State) : ¬ ∀ w ∈ tables_1, w.before args s = true := by
  intro h
  have h1 := h _ ee_static
  have h2 := h _ ee_declares
  obtain ⟨m, meth, q1, q2, q3, q4⟩ := Cond.declares_spec h2
  have h3 := Cond.static_spec q1 q2 h1
  rw [q3] at h3
  cases h3
