/-- what a tick asks of the numbers -/
def WN_ (f : Nat → Int64) : Prop := (0 ≤ (f 61).toInt32.toInt ∧ (f 61).toInt32.toInt ≤ 60) ∧ (0 ≤ (f 122).toInt32.toInt ∧ (f 122).toInt32.toInt ≤ 8) ∧ 0 ≤ (f 6).toInt ∧ (0 ≤ (f 2).toInt ∧ (f 2).toInt ≤ 9) ∧ (50 ≤ (f 53).toInt ∧ (f 53).toInt ≤ 400) ∧ (0 ≤ (f 56).toInt ∧ (f 56).toInt ≤ 4) ∧ (1 ≤ (f 57).toInt ∧ (f 57).toInt ≤ 9) ∧ (50 ≤ (f 60).toInt ∧ (f 60).toInt ≤ 400) ∧ (-1000000 ≤ (f 0).toInt ∧ (f 0).toInt ≤ 1000000) ∧ (1 ≤ (f 54).toInt ∧ (f 54).toInt ≤ 9)
def AG_ (f g : Nat → Int64) : Prop := (∀ j, 52 < j → g j = f j) ∧ (0 ≤ (g 2).toInt ∧ (g 2).toInt ≤ 9) ∧ g 6 = f 6
theorem AG_u {f g g' : Nat → Int64} {k : Nat} {x : Int64} (e : g' = vp_updL g k x) (h : AG_ f g) (hk : k ≤ 52 ∧ k ≠ 2 ∧ k ≠ 6) : AG_ f g' := by
  subst e
  obtain ⟨h1, h2, h3⟩ := h
  refine ⟨fun j hj => ?_, ?_, ?_⟩
  · show (if j = k then x else g j) = f j
    rw [if_neg (by omega)]; exact h1 j hj
  · show 0 ≤ ((if 2 = k then x else g 2) : Int64).toInt ∧ ((if 2 = k then x else g 2) : Int64).toInt ≤ 9
    rw [if_neg (fun e => hk.2.1 e.symm)]; exact h2
  · show (if 6 = k then x else g 6) = f 6
    rw [if_neg (fun e => hk.2.2 e.symm)]; exact h3
theorem AG_2 {f g' : Nat → Int64} {x : Int64} (e : g' = vp_updL f 2 x) (hx : 0 ≤ x.toInt ∧ x.toInt ≤ 9) : AG_ f g' := by
  subst e
  refine ⟨fun j hj => ?_, ?_, ?_⟩
  · show (if j = 2 then x else f j) = f j
    rw [if_neg (by omega)]
  · exact hx
  · rfl
theorem AG_6 {f g : Nat → Int64} (wn : WN_ f) (h : AG_ f g) : 0 ≤ (g 6).toInt := by rw [h.2.2]; exact wn.2.2.1
theorem jl_mulb {x y : Int64} {a b : Int} (hx0 : 0 ≤ x.toInt) (hx : x.toInt ≤ a) (hy0 : 0 ≤ y.toInt) (hy : y.toInt ≤ b) (hab : a * b < 9223372036854775808) : (x * y).toInt = x.toInt * y.toInt ∧ 0 ≤ (x * y).toInt ∧ (x * y).toInt ≤ a * b := by
  have h1 : 0 ≤ x.toInt * y.toInt := Int.mul_nonneg hx0 hy0
  have h2 : x.toInt * y.toInt ≤ a * b := Int.mul_le_mul hx hy hy0 (by omega)
  have h3 := jl_muli (x := x) (y := y) (by omega) (by omega)
  omega
theorem len_ok {f g : Nat → Int64} {r : Int64} (wn : WN_ f) (ag : AG_ f g) (er : r = fX8_lengthNow g) : 14 ≤ r.toInt ∧ r.toInt ≤ 400 := by
  have h0 : r = g 53 - g 56 * g 2 := er
  rw [ag.1 53 (by decide), ag.1 56 (by decide)] at h0
  obtain ⟨-, -, -, -, h5, h6, -⟩ := wn
  have h2 := ag.2.1
  have hm := jl_mulb (a := 4) (b := 9) h6.1 h6.2 h2.1 h2.2 (by decide)
  rw [h0, jl_subi (by omega) (by omega)]
  omega
theorem be_ok {f g : Nat → Int64} {r : Int64} (wn : WN_ f) (ag : AG_ f g) (er : r = fX8_of 7 g) : ¬ r = 0 := by
  have h0 : r = g 60 := er
  rw [ag.1 60 (by decide)] at h0
  have h8 := wn.2.2.2.2.2.2.2.1
  intro h
  rw [h] at h0
  rw [← h0] at h8
  exact absurd h8.1 (by decide)
theorem ne_of14 {r : Int64} (h : 14 ≤ r.toInt) : ¬ r = 0 := fun e => by rw [e] at h; exact absurd h (by decide)
theorem sq_ne {r : Int64} (h : 14 ≤ r.toInt) (h2 : r.toInt ≤ 400) : ¬ r * r = 0 := by
  have hm := jl_mulb (x := r) (y := r) (a := 400) (b := 400) (by omega) h2 (by omega) h2 (by decide)
  have h3 : 14 * 14 ≤ r.toInt * r.toInt := Int.mul_le_mul h h (by decide) (by omega)
  intro e
  rw [e] at hm
  have : (0 : Int64).toInt = 0 := rfl
  omega
theorem push_lt {f g : Nat → Int64} {r k : Int32} (wn : WN_ f) (ag : AG_ f g) (er : r = fX8_pushMany g) (h : ¬ r ≤ k) : k.toInt < 8 := by
  have h0 : r = (g 122).toInt32 := er
  rw [ag.1 122 (by decide)] at h0
  rw [il_le, h0] at h
  have := wn.2.1.2
  omega
theorem steps_ok {h w q d r s : Int64} (hh : 0 ≤ h.toInt ∧ h.toInt ≤ 9) (w0 : 0 ≤ w.toInt) (w9 : w.toInt ≤ 9) (hq : 1 ≤ q.toInt ∧ q.toInt ≤ 9) (er : r = q) (ed : d = w - h) (es : s = (if r < d then q else if d < -q then -q else d)) : 0 ≤ (h + s).toInt ∧ (h + s).toInt ≤ 9 := by
  have hd : d.toInt = w.toInt - h.toInt := by rw [ed, jl_subi (by omega) (by omega)]
  have hn : (-q).toInt = -q.toInt := by
    rw [Int64.toInt_neg]; exact Int.bmod_eq_of_le (by omega) (by omega)
  subst er
  have hs : s.toInt = (if r.toInt < d.toInt then r.toInt else if d.toInt < -r.toInt then -r.toInt else d.toInt) := by
    subst es
    by_cases h1 : r < d
    · rw [if_pos h1, if_pos ((jl_lt _ _).mp h1)]
    · rw [if_neg h1, if_neg (fun e => h1 ((jl_lt _ _).mpr e))]
      by_cases h2 : d < -r
      · rw [if_pos h2, if_pos (by rw [← hn]; exact (jl_lt _ _).mp h2), hn]
      · rw [if_neg h2, if_neg (fun e => h2 ((jl_lt _ _).mpr (by rw [hn]; exact e)))]
  have hb : -9 ≤ s.toInt ∧ s.toInt ≤ 9 := by
    rw [hs]
    split
    · omega
    · split <;> omega
  rw [jl_addi (by omega) (by omega)]
  split at hs
  · omega
  · split at hs <;> omega
