/-! the run from that start: inside the law's call for 17 steps, then the machine stops: it never returns -/
theorem gh_add (tb : Tables) (e : Env) : ∀ (a b : Nat) (s : State), stepsAlone tb e (a + b) s = stepsAlone tb e b (stepsAlone tb e a s)
  | 0, b, s => by rw [Nat.zero_add]; rfl
  | a + 1, b, s => by
    rw [Nat.add_right_comm, stepsAlone, stepsAlone]
    split
    · exact gh_add tb e a b _
    · rename_i h
      cases b with
      | zero => rfl
      | succ b => 
        rw [stepsAlone]
        split
        · rename_i h1 h2 h3
          exact absurd h3 (fun _ => h h1 h2 h3)
        · rfl
set_option maxRecDepth 16384 in
theorem gh_stop : decide ((stepsAlone start1.p0.tables start1.e0 20 gh_state).status = .running) = false := by decide +kernel
set_option maxRecDepth 16384 in
theorem gh_in : (List.range 20).all (fun n => decide (Lib.HandBits.below0.length < (stepsAlone start1.p0.tables start1.e0 n gh_state).frames.length)) = true := by decide +kernel
theorem gh_stay (k : Nat) : (stepsAlone start1.p0.tables start1.e0 (20 + k) gh_state).status ≠ .running := by
  have h := of_decide_eq_false gh_stop
  rw [gh_add]
  generalize stepsAlone start1.p0.tables start1.e0 20 gh_state = S at h
  cases k with
  | zero => exact h
  | succ k =>
    rw [stepsAlone]
    split
    · rename_i h1 _ _
      exact absurd h1 h
    · exact h
theorem gh_len {s : State} {v : Option Value} (h : Ended s Lib.HandBits.below0 (.returned v)) : s.frames.length = Lib.HandBits.below0.length := by
  have h2 : s.frames = .native { ({ method := ⟨0, 0⟩, args := #[] } : NFrame) with awaiting := false, answer := some (.returned v) } :: [] := h
  rw [h2]; rfl
/-- the claim, as it is stated, is false -/
theorem gh_false : ¬ Claimed_1_1 := by
  intro hC
  obtain ⟨_, _, had, _, hcas, hclk, hfr, hargs, hheap, happ, hcalls, hrest, hpre⟩ := gh_atStart
  obtain ⟨n, o, hW, hst, hE, hP, -⟩ := hC launch0 rfl lists_1 trivial start1.p0 start1.e0 had hcas hclk gh_state ⟨0, 0⟩ start1.args0 Lib.HandBits.below0 hfr hargs hheap happ ⟨hcalls, hrest, hpre⟩
  by_cases hn : n < 20
  · have h1 := of_decide_eq_true (List.all_eq_true.mp gh_in n (List.mem_range.mpr hn))
    cases o with
    | returned v => have := gh_len hE; omega
    | threw a =>
      have : limb_1_1.after start1.args0 gh_state (.threw a) (stepsAlone start1.p0.tables start1.e0 n gh_state) = true := hP
      simp [limb_1_1, Cond.after, Cond.holds, Cond.value] at this
  · obtain ⟨k, rfl⟩ := Nat.exists_eq_add_of_le (Nat.le_of_not_lt hn)
    exact gh_stay k hst
