def FR_ (f g : Nat → Int64) : Prop := ∀ j, 52 < j → g j = f j
theorem fr_tr {f g h : Nat → Int64} (a : FR_ f g) (b : ∀ j, 52 < j → h j = g j) : FR_ f h := fun j hj => (b j hj).trans (a j hj)
theorem fr_rf (f : Nat → Int64) : FR_ f f := fun _ _ => rfl
theorem td_le {a k : Int} (hk : 0 < k) : -((if a < 0 then -a else a) / k) ≤ a.tdiv k ∧ a.tdiv k ≤ (if a < 0 then -a else a) / k := by
  by_cases h : a < 0
  · rw [if_pos h]
    have e : a.tdiv k = -((-a) / k) := by
      have : a = -(-a) := by omega
      conv => lhs; rw [this]
      rw [Int.neg_tdiv, Int.tdiv_eq_ediv_of_nonneg (by omega)]
    have := Int.ediv_nonneg (a := -a) (b := k) (by omega) (by omega)
    omega
  · rw [if_neg h, Int.tdiv_eq_ediv_of_nonneg (by omega)]
    have := Int.ediv_nonneg (a := a) (b := k) (by omega) (by omega)
    omega
theorem td_b {a k B C : Int} (hk : 0 < k) (h1 : -B ≤ a) (h2 : a ≤ B) (hC : B / k ≤ C) : -C ≤ a.tdiv k ∧ a.tdiv k ≤ C := by
  have h := td_le (a := a) hk
  have h3 : (if a < 0 then -a else a) / k ≤ B / k := Int.ediv_le_ediv hk (by split <;> omega)
  omega
theorem jl_divi {x y : Int64} (h0 : 2 ≤ y.toInt) : (x / y).toInt = x.toInt.tdiv y.toInt := by
  have h1 := jl_hi x
  have h2 := jl_lo x
  rw [Int64.toInt_div]
  have hb := td_b (a := x.toInt) (k := y.toInt) (B := 9223372036854775808) (C := 4611686018427387904) (by omega) h2 (by omega) (Int.ediv_le_of_le_mul (by omega) (by omega))
  exact Int.bmod_eq_of_le (by omega) (by omega)
theorem sq_nn (a : Int) : 0 ≤ a * a := by
  rcases Int.le_total 0 a with h | h
  · exact Int.mul_nonneg h h
  · have := Int.mul_nonneg (a := -a) (b := -a) (by omega) (by omega)
    rwa [Int.neg_mul_neg] at this
theorem sq_le {a B : Int} (h1 : -B ≤ a) (h2 : a ≤ B) : a * a ≤ B * B := by
  rcases Int.le_total 0 a with h | h
  · exact Int.mul_le_mul h2 h2 h (by omega)
  · have := Int.mul_le_mul (a := -a) (b := -a) (c := B) (d := B) (by omega) (by omega) (by omega) (by omega)
    rwa [Int.neg_mul_neg] at this
/-- how high: what far falls from -/
theorem up_b {len a up : Int64} (hl : 14 ≤ len.toInt ∧ len.toInt ≤ 400) (ha : -1000000 ≤ a.toInt ∧ a.toInt ≤ 1000000) (e : up = 50 + len * (a / 1000) * (a / 1000) / 2000000) : 50 ≤ up.toInt ∧ up.toInt ≤ 250 := by
  have e1 : (1000 : Int64).toInt = 1000 := rfl
  have e2 : (2000000 : Int64).toInt = 2000000 := rfl
  have e3 : (50 : Int64).toInt = 50 := rfl
  have hq : -1000 ≤ (a / 1000).toInt ∧ (a / 1000).toInt ≤ 1000 := by
    rw [jl_divi (by rw [e1]; decide), e1]
    exact td_b (B := 1000000) (by decide) ha.1 ha.2 (by decide)
  generalize a / 1000 = q at hq e
  have m1 : -400000 ≤ len.toInt * q.toInt ∧ len.toInt * q.toInt ≤ 400000 := by
    have u1 := Int.mul_le_mul_of_nonneg_left hq.2 (show 0 ≤ len.toInt by omega)
    have u2 := Int.mul_le_mul_of_nonneg_left hq.1 (show 0 ≤ len.toInt by omega)
    omega
  have h1 : (len * q).toInt = len.toInt * q.toInt := jl_muli (by omega) (by omega)
  have s1 := sq_nn q.toInt
  have s2 := sq_le hq.1 hq.2
  have m2 : 0 ≤ len.toInt * (q.toInt * q.toInt) ∧ len.toInt * (q.toInt * q.toInt) ≤ 400 * 1000000 := ⟨Int.mul_nonneg (by omega) s1, Int.mul_le_mul hl.2 (by omega) s1 (by decide)⟩
  have h2 : (len * q * q).toInt = len.toInt * (q.toInt * q.toInt) := by
    rw [jl_muli (by rw [h1, Int.mul_assoc]; omega) (by rw [h1, Int.mul_assoc]; omega), h1, Int.mul_assoc]
  have h3 : 0 ≤ (len * q * q / 2000000).toInt ∧ (len * q * q / 2000000).toInt ≤ 200 := by
    rw [jl_divi (by rw [e2]; decide), e2, h2, Int.tdiv_eq_ediv_of_nonneg m2.1]
    omega
  rw [e, jl_addi (by omega) (by omega)]
  omega
theorem fall_b {pull f up : Int64} (hp : 1 ≤ pull.toInt ∧ pull.toInt ≤ 9) (f0 : 0 ≤ f.toInt) (f1 : f.toInt ≤ 23) (hu : 50 ≤ up.toInt ∧ up.toInt ≤ 250) (h : pull * f * f < 2 * up) : f.toInt < 23 := by
  have m1 := jl_mulb (x := pull) (y := f) (a := 9) (b := 23) (by omega) hp.2 f0 f1 (by decide)
  have m2 := jl_mulb (x := pull * f) (y := f) (a := 207) (b := 23) m1.2.1 m1.2.2 f0 f1 (by decide)
  have m3 := jl_mulb (x := 2) (y := up) (a := 2) (b := 250) (by decide) (by decide) (by omega) hu.2 (by decide)
  have e2 : (2 : Int64).toInt = 2 := rfl
  rw [jl_lt, m2.1, m1.1, m3.1, e2] at h
  by_cases e : f.toInt = 23
  · rw [e] at h
    omega
  · omega
theorem ag_rf {f : Nat → Int64} (wn : WN_ f) : AG_ f f := ⟨fun _ _ => rfl, wn.2.2.2.1, rfl⟩
def lpX8_farNow_40 (fNw : Nat → Int64) (x3_4 : Int64) : Nat → Int64 → Int64
  | 0, _ => 0
  | N + 1, f =>
    let r_6 : Int64 := fX8_of 1 fNw
    if (r_6 * f) * f < 2 * x3_4 then (
    let x5_9 : Int64 := f + 1
    lpX8_farNow_40 fNw x3_4 N x5_9)
    else (
    f)

def fX8_farNow (fNw : Nat → Int64) : Int32 :=
  let r_2 : Int64 := fX8_lengthNow fNw
  let x3_4 : Int64 := 50 + (((r_2 * ((fNw 0) / 1000)) * ((fNw 0) / 1000)) / 2000000)
  let z_10 : Int64 := lpX8_farNow_40 fNw x3_4 (24) 0
  ((((fNw 0) + ((fNw 1) * z_10)) * r_2) / 1000).toInt32

set_option maxHeartbeats 4000000 in
set_option maxRecDepth 100000 in
theorem c_X8_farNow (l : Launch) (G : va_G) (aM aNw rM_kept rM_isKept rM_refused rM_values rM_signs rM_was : Nat) (cNw : ClassId) (M_at : Int32) (M_fault : Int32) (M_valueMany : Int32) (M_signMany : Int32) (M_tells : Int64) (M_way : Int32) (M_wish : Int32) (M_moreTick : Int64) (M_moreForce : Int64) (M_runTurns : Int32) (M_runFirst : Int64) (M_runLast : Int64) (M_peak : Int64) (M_beside : Int64) (M_besideAt : Int32) (fNw : Nat → Int64) (wn : WN_ fNw) : kCi l yX8_farNow (Cond.code yX8_farNow cX8_farNow 7 (some .int) :: wsL_law) ({ frames := 2, cells := 0, slots := 0, locals := 41 }) G [(cNw, .long)] [.ref aM] [(aM, .inr (8, [.ref aNw, .ref rM_kept, .ref rM_isKept, .ref rM_refused, .int M_at, .int M_fault, .ref rM_values, .int M_valueMany, .ref rM_signs, .int M_signMany, .long M_tells, .int M_way, .int M_wish, .long M_moreTick, .long M_moreForce, .int M_runTurns, .long M_runFirst, .long M_runLast, .ref rM_was, .long M_peak, .long M_beside, .int M_besideAt])), (aNw, .inl (cNw, 139, .inr (.inl fNw)))] (fun (r : Int32) (_ : Unit) => r = fX8_farNow fNw) (fun (_ : Unit) => [(aM, .inr (8, [.ref aNw, .ref rM_kept, .ref rM_isKept, .ref rM_refused, .int M_at, .int M_fault, .ref rM_values, .int M_valueMany, .ref rM_signs, .int M_signMany, .long M_tells, .int M_way, .int M_wish, .long M_moreTick, .long M_moreForce, .int M_runTurns, .long M_runFirst, .long M_runLast, .ref rM_was, .long M_peak, .long M_beside, .int M_besideAt])), (aNw, .inl (cNw, 139, .inr (.inl fNw)))]) := by
  intro sz
  refine Met.ofW (cc := cX8_farNow) (maxL := 7) (ret := (some .int)) (by decide) rfl ?_
  intro p e s m args below meth c s₁ B hml hv
  obtain ⟨rfl, hv⟩ := hv
  obtain ⟨rfl, hK, hq, hA⟩ := kk_begin hv
  have hx := B.exec
  have hb := B.bytes
  have hr := B.returns
  have hts := atoms_spec (ws := (Cond.code yX8_farNow cX8_farNow 7 (some .int) :: wsL_law)) B.pre
  have hown : s.vm.findClass RX8 = some m.cls := findClass_of_methodNamed B.named
  have hlocks := B.notSynchronized
  have hsb : ∀ w ∈ wsL_law, w ∈ (Cond.code yX8_farNow cX8_farNow 7 (some .int) :: wsL_law) := fun _ h => List.mem_cons_of_mem _ h
  generalize va_A [(aM, .inr (8, [.ref aNw, .ref rM_kept, .ref rM_isKept, .ref rM_refused, .int M_at, .int M_fault, .ref rM_values, .int M_valueMany, .ref rM_signs, .int M_signMany, .long M_tells, .int M_way, .int M_wish, .long M_moreTick, .long M_moreForce, .int M_runTurns, .long M_runFirst, .long M_runLast, .ref rM_was, .long M_peak, .long M_beside, .int M_besideAt])), (aNw, .inl (cNw, 139, .inr (.inl fNw)))] s.heap.size = A at hq hA ⊢
  have iX8 : ∀ w ∈ u_ws RX8 TX8 22, w ∈ (Cond.code yX8_farNow cX8_farNow 7 (some .int) :: wsL_law) := fun w h => hsb w (bin_X8 w h)
  have lk0_ := hts _ (hsb _ wd_150)
  have lk1_ := hts _ (hsb _ wd_117)
  have lk2_ := hts _ (hsb _ wd_548)
  have lk3_ := hts _ (hsb _ wd_741)
  have lk4_ := hts _ (hsb _ wd_127)
  have hl := lv_entry ([.ref aM]) (n := 7) (Nat.le_of_ble_eq_true rfl)
  rw [lg_entry_eq]
  generalize (lg_sl ([.ref aM]) ++ List.replicate (7 - (lg_sl ([.ref aM])).length) Slot.unset).toArray = ls at hl ⊢
  have hl : lv_has ls 7 [(0, .ref aM)] := hl
  refine lv_aload_n hx hb dX8_farNow_0 rfl (lv_at hl 0 rfl) ?_
  refine kk_Vl (As := []) (rest := []) (wr := []) ⟨hx, hb, hml, hown, hts⟩ (c_X8_lengthNow l G aM aNw rM_kept rM_isKept rM_refused rM_values rM_signs rM_was cNw M_at M_fault M_valueMany M_signMany M_tells M_way M_wish M_moreTick M_moreForce M_runTurns M_runFirst M_runLast M_peak M_beside M_besideAt fNw) (kk_cwV 0 hts hsb wd_556 wd_557 wd_558 wd_5 wd_559 rfl rfl hd_X8_lengthNow ⟨Nat.le_of_ble_eq_true rfl, Nat.le_of_ble_eq_true rfl⟩) hA hK hq [0, 1] [] [0] rfl rfl rfl (by decide) (by decide) (by decide) 0 8 rfl rfl rfl rfl hl.1 rfl (Nat.le_of_ble_eq_true rfl) dX8_farNow_1 ⟨Nat.zero_le _, Nat.zero_le _⟩ (fun r_2 u_1 H locs h_3 hq => ?_)
  have er_2 := h_3
  have hq : kAt G A s [(aM, .inr (8, [.ref aNw, .ref rM_kept, .ref rM_isKept, .ref rM_refused, .int M_at, .int M_fault, .ref rM_values, .int M_valueMany, .ref rM_signs, .int M_signMany, .long M_tells, .int M_way, .int M_wish, .long M_moreTick, .long M_moreForce, .int M_runTurns, .long M_runFirst, .long M_runLast, .ref rM_was, .long M_peak, .long M_beside, .int M_besideAt])), (aNw, .inl (cNw, 139, .inr (.inl fNw)))] H locs := hq
  have hlen := len_ok wn (ag_rf wn) er_2
  refine lv_lstore_n (lv' := [(1, .long r_2), (0, .ref aM)]) hx hb dX8_farNow_4 rfl hl (by decide) rfl (fun ls hl => ?_)
  refine lv_ldc2 hx hb hown lk0_ dX8_farNow_5 ?_
  refine lv_lload_n hx hb dX8_farNow_8 rfl (lv_at hl 0 rfl) ?_
  refine lv_aload_n hx hb dX8_farNow_9 rfl (lv_at hl 1 rfl) ?_
  refine kk_get (ci := 8) (v := .ref aNw) (C := RX8) (T := TX8) (N := 22) hx hb hts iX8 hown hK hq 0 rfl rfl 0 (by decide) lk1_ rfl dX8_farNow_10 ?_
  refine lv_iconst (v := 0) hx hb dX8_farNow_13 (by decide) ?_
  refine kk_lald hx hb hK hq 1 0 rfl rfl 0 rfl (by decide) (by decide) dX8_farNow_14 ?_
  refine lv_ldc2 hx hb hown lk2_ dX8_farNow_15 ?_
  refine lv_ldiv hx hb dX8_farNow_18 (by decide) ?_
  refine lv_lmul hx hb dX8_farNow_19 ?_
  refine lv_aload_n hx hb dX8_farNow_20 rfl (lv_at hl 1 rfl) ?_
  refine kk_get (ci := 8) (v := .ref aNw) (C := RX8) (T := TX8) (N := 22) hx hb hts iX8 hown hK hq 0 rfl rfl 0 (by decide) lk1_ rfl dX8_farNow_21 ?_
  refine lv_iconst (v := 0) hx hb dX8_farNow_24 (by decide) ?_
  refine kk_lald hx hb hK hq 1 0 rfl rfl 0 rfl (by decide) (by decide) dX8_farNow_25 ?_
  refine lv_ldc2 hx hb hown lk2_ dX8_farNow_26 ?_
  refine lv_ldiv hx hb dX8_farNow_29 (by decide) ?_
  refine lv_lmul hx hb dX8_farNow_30 ?_
  refine lv_ldc2 hx hb hown lk3_ dX8_farNow_31 ?_
  refine lv_ldiv hx hb dX8_farNow_34 (by decide) ?_
  refine lv_ladd hx hb dX8_farNow_35 ?_
  refine lv_topl (fun x3_4 ex3_4 => ?_)
  refine lv_lstore_n (lv' := [(3, .long x3_4), (1, .long r_2), (0, .ref aM)]) hx hb dX8_farNow_36 rfl hl (by decide) rfl (fun ls hl => ?_)
  refine lv_lconst (v := 0) hx hb dX8_farNow_37 (by decide) ?_
  refine lv_lstore (lv' := [(5, .long 0), (3, .long x3_4), (1, .long r_2), (0, .ref aM)]) hx hb dX8_farNow_38 hl (by decide) rfl (fun ls hl => ?_)
  refine kk_loop1 (fun N40 (f : Int64) (H : Heap) (locs : List Loc) (ls : Array Slot) => lpX8_farNow_40 fNw x3_4 (24) 0 = lpX8_farNow_40 fNw x3_4 N40 f ∧ (0 ≤ f.toInt) ∧ (f.toInt ≤ 23) ∧ (f.toInt + N40 = 24) ∧ lv_has ls 7 [(5, .long f), (3, .long x3_4), (1, .long r_2), (0, .ref aM)] ∧ kAt G A s [(aM, .inr (8, [.ref aNw, .ref rM_kept, .ref rM_isKept, .ref rM_refused, .int M_at, .int M_fault, .ref rM_values, .int M_valueMany, .ref rM_signs, .int M_signMany, .long M_tells, .int M_way, .int M_wish, .long M_moreTick, .long M_moreForce, .int M_runTurns, .long M_runFirst, .long M_runLast, .ref rM_was, .long M_peak, .long M_beside, .int M_besideAt])), (aNw, .inl (cNw, 139, .inr (.inl fNw)))] H locs) 40 (fun f => []) (fun f H locs ls hv => ?_) (fun N40 f H locs ls ih40 hv => ?_) (24) 0 _ _ _ ⟨rfl, (by decide), (by decide), (by decide), lv_sub hl [0, 1, 2, 3] rfl, hq⟩
  · skip
    obtain ⟨hrel40, f0, f1, hN, hl, hq⟩ := hv
    omega
  · skip
    obtain ⟨hrel40, f0, f1, hN, hl, hq⟩ := hv
    refine lv_aload_n hx hb dX8_farNow_40 rfl (lv_at hl 3 rfl) ?_
    refine lv_iconst (v := 1) hx hb dX8_farNow_41 (by decide) ?_
    refine kk_Vl (As := [.int 1]) (rest := []) (wr := []) ⟨hx, hb, hml, hown, hts⟩ (c_X8_of l G aM aNw rM_kept rM_isKept rM_refused rM_values rM_signs rM_was cNw 1 M_at M_fault M_valueMany M_signMany M_tells M_way M_wish M_moreTick M_moreForce M_runTurns M_runFirst M_runLast M_peak M_beside M_besideAt fNw (by decide) (by decide)) (kk_cwV 1 hts hsb wd_163 wd_164 wd_165 wd_5 wd_166 rfl rfl hd_X8_of ⟨Nat.le_of_ble_eq_true rfl, Nat.le_of_ble_eq_true rfl⟩) hA hK hq [0, 1] [] [0] rfl rfl rfl (by decide) (by decide) (by decide) 0 8 rfl rfl rfl rfl hl.1 rfl (Nat.le_of_ble_eq_true rfl) dX8_farNow_42 ⟨Nat.zero_le _, Nat.zero_le _⟩ (fun r_6 u_5 H locs h_7 hq => ?_)
    have er_6 := h_7
    have hq : kAt G A s [(aM, .inr (8, [.ref aNw, .ref rM_kept, .ref rM_isKept, .ref rM_refused, .int M_at, .int M_fault, .ref rM_values, .int M_valueMany, .ref rM_signs, .int M_signMany, .long M_tells, .int M_way, .int M_wish, .long M_moreTick, .long M_moreForce, .int M_runTurns, .long M_runFirst, .long M_runLast, .ref rM_was, .long M_peak, .long M_beside, .int M_besideAt])), (aNw, .inl (cNw, 139, .inr (.inl fNw)))] H locs := hq
    have hpl := er_6
    refine lv_lload hx hb dX8_farNow_45 (lv_at hl 0 rfl) ?_
    refine lv_lmul hx hb dX8_farNow_47 ?_
    refine lv_lload hx hb dX8_farNow_48 (lv_at hl 0 rfl) ?_
    refine lv_lmul hx hb dX8_farNow_50 ?_
    refine lv_ldc2 hx hb hown lk4_ dX8_farNow_51 ?_
    refine lv_lload_n hx hb dX8_farNow_54 rfl (lv_at hl 1 rfl) ?_
    refine lv_lmul hx hb dX8_farNow_55 ?_
    refine kk_lc_ge (tgt := 69) hx hb dX8_farNow_56 dX8_farNow_57 (by decide) (fun c_8 => ?_) (fun c_8 => ?_)
    · skip
      have hx_9 : (f : Int64) = lpX8_farNow_40 fNw x3_4 (24) 0 := (hrel40.trans ((congrArg (fun (r_6 : Int64) => ((if (r_6 * f) * f < 2 * x3_4 then (
    let x5_9 : Int64 := f + 1
    lpX8_farNow_40 fNw x3_4 N40 x5_9)
    else (
    f)) : Int64)) er_6.symm).trans ((if_neg c_8)))).symm
      obtain ⟨z_10, gz_10⟩ : ∃ z : Int64, z = f := ⟨_, rfl⟩
      have ez_10 : z_10 = lpX8_farNow_40 fNw x3_4 (24) 0 := gz_10.trans hx_9
      have hl : lv_has ls 7 [(5, .long z_10), (3, .long x3_4), (1, .long r_2), (0, .ref aM)] := by subst gz_10; exact hl
      have hq : kAt G A s [(aM, .inr (8, [.ref aNw, .ref rM_kept, .ref rM_isKept, .ref rM_refused, .int M_at, .int M_fault, .ref rM_values, .int M_valueMany, .ref rM_signs, .int M_signMany, .long M_tells, .int M_way, .int M_wish, .long M_moreTick, .long M_moreForce, .int M_runTurns, .long M_runFirst, .long M_runLast, .ref rM_was, .long M_peak, .long M_beside, .int M_besideAt])), (aNw, .inl (cNw, 139, .inr (.inl fNw)))] H locs := by subst gz_10; exact hq
      refine lv_aload_n hx hb dX8_farNow_69 rfl (lv_at hl 3 rfl) ?_
      refine kk_get (ci := 8) (v := .ref aNw) (C := RX8) (T := TX8) (N := 22) hx hb hts iX8 hown hK hq 0 rfl rfl 0 (by decide) lk1_ rfl dX8_farNow_70 ?_
      refine lv_iconst (v := 0) hx hb dX8_farNow_73 (by decide) ?_
      refine kk_lald hx hb hK hq 1 0 rfl rfl 0 rfl (by decide) (by decide) dX8_farNow_74 ?_
      refine lv_aload_n hx hb dX8_farNow_75 rfl (lv_at hl 3 rfl) ?_
      refine kk_get (ci := 8) (v := .ref aNw) (C := RX8) (T := TX8) (N := 22) hx hb hts iX8 hown hK hq 0 rfl rfl 0 (by decide) lk1_ rfl dX8_farNow_76 ?_
      refine lv_iconst (v := 1) hx hb dX8_farNow_79 (by decide) ?_
      refine kk_lald hx hb hK hq 1 0 rfl rfl 1 rfl (by decide) (by decide) dX8_farNow_80 ?_
      refine lv_lload hx hb dX8_farNow_81 (lv_at hl 0 rfl) ?_
      refine lv_lmul hx hb dX8_farNow_83 ?_
      refine lv_ladd hx hb dX8_farNow_84 ?_
      refine lv_lload_n hx hb dX8_farNow_85 rfl (lv_at hl 2 rfl) ?_
      refine lv_lmul hx hb dX8_farNow_86 ?_
      refine lv_ldc2 hx hb hown lk2_ dX8_farNow_87 ?_
      refine lv_ldiv hx hb dX8_farNow_90 (by decide) ?_
      refine lv_l2i hx hb dX8_farNow_91 rfl ?_
      have hf : (((((fNw 0) + ((fNw 1) * z_10)) * r_2) / 1000).toInt32 : Int32) = fX8_farNow fNw := by
        exact ((congrArg (fun (r_2 : Int64) => ((let x3_4 : Int64 := 50 + (((r_2 * ((fNw 0) / 1000)) * ((fNw 0) / 1000)) / 2000000)
  let z_10 : Int64 := lpX8_farNow_40 fNw x3_4 (24) 0
  ((((fNw 0) + ((fNw 1) * z_10)) * r_2) / 1000).toInt32) : Int32)) er_2.symm).trans ((congrArg (fun (x3_4 : Int64) => ((let z_10 : Int64 := lpX8_farNow_40 fNw x3_4 (24) 0
  ((((fNw 0) + ((fNw 1) * z_10)) * r_2) / 1000).toInt32) : Int32)) ex3_4.symm).trans ((congrArg (fun (z_10 : Int64) => ((((((fNw 0) + ((fNw 1) * z_10)) * r_2) / 1000).toInt32) : Int32)) ez_10.symm)))).symm
      exact kk_ei hx hb hr hlocks hK hq [0, 1] () rfl (by decide) dX8_farNow_92 hf
    · skip
      have hf := fall_b (by rw [hpl]; exact wn.2.2.2.2.2.2.2.2.2) f0 f1 (up_b hlen wn.2.2.2.2.2.2.2.2.1 (by assumption)) c_8
      refine lv_lload hx hb dX8_farNow_60 (lv_at hl 0 rfl) ?_
      refine lv_lconst (v := 1) hx hb dX8_farNow_62 (by decide) ?_
      refine lv_ladd hx hb dX8_farNow_63 ?_
      refine lv_topl (fun x5_11 ex5_11 => ?_)
      refine lv_lstore (lv' := [(5, .long x5_11), (3, .long x3_4), (1, .long r_2), (0, .ref aM)]) hx hb dX8_farNow_64 hl (by decide) rfl (fun ls hl => ?_)
      refine lv_goto (tgt := 40) hx hb dX8_farNow_66 (by decide) ?_
      exact ih40 x5_11 _ _ _ ⟨(hrel40.trans ((congrArg (fun (r_6 : Int64) => ((if (r_6 * f) * f < 2 * x3_4 then (
    let x5_9 : Int64 := f + 1
    lpX8_farNow_40 fNw x3_4 N40 x5_9)
    else (
    f)) : Int64)) er_6.symm).trans ((if_pos c_8).trans ((congrArg (fun (x5_11 : Int64) => ((lpX8_farNow_40 fNw x3_4 N40 x5_11) : Int64)) ex5_11.symm))))), (by subst ex5_11 er_6; have := jl_inc (x := f) (by omega); omega), (by subst ex5_11 er_6; have := jl_inc (x := f) (by omega); omega), (by subst ex5_11 er_6; have := jl_inc (x := f) (by omega); omega), lv_sub hl [0, 1, 2, 3] rfl, hq⟩
theorem hd_X8_tickOnce : yX8_tickOnce.cls = RX8 ∧ yX8_tickOnce.cls ≠ "java/lang/invoke/MethodHandle" ∧ yX8_tickOnce.cls ≠ "java/lang/invoke/VarHandle" ∧ (parseMethodDescriptor yX8_tickOnce.desc).map (fun d => d.parameters.length) = some 0 := by decide +kernel
def lpX8_goOn_2 (p1 : Int32) (M_way : Int32) (M_wish : Int32) (M_moreTick : Int64) (M_moreForce : Int64) : Nat → Int32 → Int32 → Int32 → Int32 → Int32 → Int64 → Int32 → Int64 → Int64 → Int64 → Int64 → Int32 → (Nat → Int64) → (Nat → Int64) → (Nat → Int32) → Int32 × Int32 × Int32 × Int32 × Int32 × Int64 × Int32 × Int64 × Int64 × Int64 × Int64 × Int32 × (Nat → Int64) × (Nat → Int64) × (Nat → Int32)
  | 0, _, _, _, _, _, _, _, _, _, _, _, _, _, _, _ => (0, 0, 0, 0, 0, 0, 0, 0, 0, 0, 0, 0, fun _ => 0, fun _ => 0, fun _ => 0)
  | N + 1, i, at_, fl, vn, sm, te, rt, rf, rl, pk, be, ba, nf, vf, sf =>
    if p1 < i then (
    (i, at_, fl, vn, sm, te, rt, rf, rl, pk, be, ba, nf, vf, sf))
    else (
    let u_2 : Int32 × Int32 × Int32 × Int32 × Int64 × Int32 × Int64 × Int64 × (Nat → Int64) × (Nat → Int64) × (Nat → Int32) := fX8_tickOnce at_ fl vn sm te M_way M_wish M_moreTick M_moreForce rt rf rl nf vf sf
    let r_6 : Int64 := fX8_size (u_2.2.2.2.2.2.2.2.2.1 0)
    let z0_9 : Int64 := if pk < r_6 then fX8_size (u_2.2.2.2.2.2.2.2.2.1 0) else pk
    let beside_12 : Int64 := if ba = 0 then fX8_size (u_2.2.2.2.2.2.2.2.2.1 10) else if be < fX8_size (u_2.2.2.2.2.2.2.2.2.1 10) then fX8_size (u_2.2.2.2.2.2.2.2.2.1 10) else be
    let besideAt_13 : Int32 := if ba = 0 then i else if be < fX8_size (u_2.2.2.2.2.2.2.2.2.1 10) then i else ba
    lpX8_goOn_2 p1 M_way M_wish M_moreTick M_moreForce N (i + 1) u_2.1 u_2.2.1 u_2.2.2.1 u_2.2.2.2.1 u_2.2.2.2.2.1 u_2.2.2.2.2.2.1 u_2.2.2.2.2.2.2.1 u_2.2.2.2.2.2.2.2.1 z0_9 beside_12 besideAt_13 u_2.2.2.2.2.2.2.2.2.1 u_2.2.2.2.2.2.2.2.2.2.1 u_2.2.2.2.2.2.2.2.2.2.2)

def fX8_goOn (p1 : Int32) (M_at : Int32) (M_fault : Int32) (M_valueMany : Int32) (M_signMany : Int32) (M_tells : Int64) (M_way : Int32) (M_wish : Int32) (M_moreTick : Int64) (M_moreForce : Int64) (M_runTurns : Int32) (M_runFirst : Int64) (M_runLast : Int64) (M_peak : Int64) (M_beside : Int64) (M_besideAt : Int32) (fNw : Nat → Int64) (fVs : Nat → Int64) (fSg : Nat → Int32) : Int32 × Int32 × Int32 × Int32 × Int64 × Int32 × Int64 × Int64 × Int64 × Int64 × Int32 × (Nat → Int64) × (Nat → Int64) × (Nat → Int32) :=
  let z_4 : Int32 × Int32 × Int32 × Int32 × Int32 × Int64 × Int32 × Int64 × Int64 × Int64 × Int64 × Int32 × (Nat → Int64) × (Nat → Int64) × (Nat → Int32) := lpX8_goOn_2 p1 M_way M_wish M_moreTick M_moreForce (501) 1 M_at M_fault M_valueMany M_signMany M_tells M_runTurns M_runFirst M_runLast M_peak M_beside M_besideAt fNw fVs fSg
  (z_4.2.1, z_4.2.2.1, z_4.2.2.2.1, z_4.2.2.2.2.1, z_4.2.2.2.2.2.1, z_4.2.2.2.2.2.2.1, z_4.2.2.2.2.2.2.2.1, z_4.2.2.2.2.2.2.2.2.1, z_4.2.2.2.2.2.2.2.2.2.1, z_4.2.2.2.2.2.2.2.2.2.2.1, z_4.2.2.2.2.2.2.2.2.2.2.2.1, z_4.2.2.2.2.2.2.2.2.2.2.2.2.1, z_4.2.2.2.2.2.2.2.2.2.2.2.2.2.1, z_4.2.2.2.2.2.2.2.2.2.2.2.2.2.2)

set_option maxHeartbeats 4000000 in
set_option maxRecDepth 100000 in
theorem c_X8_goOn (l : Launch) (G : va_G) (aM aNw aVs aSg rM_kept rM_isKept rM_refused rM_was : Nat) (cNw cVs cSg : ClassId) (p1 : Int32) (M_at : Int32) (M_fault : Int32) (M_valueMany : Int32) (M_signMany : Int32) (M_tells : Int64) (M_way : Int32) (M_wish : Int32) (M_moreTick : Int64) (M_moreForce : Int64) (M_runTurns : Int32) (M_runFirst : Int64) (M_runLast : Int64) (M_peak : Int64) (M_beside : Int64) (M_besideAt : Int32) (fNw : Nat → Int64) (fVs : Nat → Int64) (fSg : Nat → Int32) (wn : WN_ fNw) (wh : M_way = 1 → 0 ≤ M_wish.toInt ∧ M_wish.toInt ≤ 9) (tb : (fNw 6).toInt ≤ 1000000000) (hn : p1.toInt ≤ 500) : kCv l yX8_goOn (Cond.code yX8_goOn cX8_goOn 3 none :: wsL_law) ({ frames := 5, cells := 0, slots := 0, locals := 127 }) G [(cNw, .long), (cVs, .long), (cSg, .int)] [.ref aM, .int p1] [(aM, .inr (8, [.ref aNw, .ref rM_kept, .ref rM_isKept, .ref rM_refused, .int M_at, .int M_fault, .ref aVs, .int M_valueMany, .ref aSg, .int M_signMany, .long M_tells, .int M_way, .int M_wish, .long M_moreTick, .long M_moreForce, .int M_runTurns, .long M_runFirst, .long M_runLast, .ref rM_was, .long M_peak, .long M_beside, .int M_besideAt])), (aNw, .inl (cNw, 139, .inr (.inl fNw))), (aVs, .inl (cVs, 64, .inr (.inl fVs))), (aSg, .inl (cSg, 128, .inl fSg))] (fun (u : Int32 × Int32 × Int32 × Int32 × Int64 × Int32 × Int64 × Int64 × Int64 × Int64 × Int32 × (Nat → Int64) × (Nat → Int64) × (Nat → Int32)) => u = fX8_goOn p1 M_at M_fault M_valueMany M_signMany M_tells M_way M_wish M_moreTick M_moreForce M_runTurns M_runFirst M_runLast M_peak M_beside M_besideAt fNw fVs fSg ∧ (WN_ u.2.2.2.2.2.2.2.2.2.2.2.1) ∧ ((u.2.2.2.2.2.2.2.2.2.2.2.1 6).toInt ≤ (fNw 6).toInt + 501) ∧ (FR_ fNw u.2.2.2.2.2.2.2.2.2.2.2.1)) (fun (u : Int32 × Int32 × Int32 × Int32 × Int64 × Int32 × Int64 × Int64 × Int64 × Int64 × Int32 × (Nat → Int64) × (Nat → Int64) × (Nat → Int32)) => [(aM, .inr (8, [.ref aNw, .ref rM_kept, .ref rM_isKept, .ref rM_refused, .int u.1, .int u.2.1, .ref aVs, .int u.2.2.1, .ref aSg, .int u.2.2.2.1, .long u.2.2.2.2.1, .int M_way, .int M_wish, .long M_moreTick, .long M_moreForce, .int u.2.2.2.2.2.1, .long u.2.2.2.2.2.2.1, .long u.2.2.2.2.2.2.2.1, .ref rM_was, .long u.2.2.2.2.2.2.2.2.1, .long u.2.2.2.2.2.2.2.2.2.1, .int u.2.2.2.2.2.2.2.2.2.2.1])), (aNw, .inl (cNw, 139, .inr (.inl u.2.2.2.2.2.2.2.2.2.2.2.1))), (aVs, .inl (cVs, 64, .inr (.inl u.2.2.2.2.2.2.2.2.2.2.2.2.1))), (aSg, .inl (cSg, 128, .inl u.2.2.2.2.2.2.2.2.2.2.2.2.2))]) := by
  intro sz
  refine Met.ofW (cc := cX8_goOn) (maxL := 3) (ret := none) (by decide) rfl ?_
  intro p e s m args below meth c s₁ B hml hv
  obtain ⟨rfl, hv⟩ := hv
  obtain ⟨rfl, hK, hq, hA⟩ := kk_begin hv
  have hx := B.exec
  have hb := B.bytes
  have hr := B.returns
  have hts := atoms_spec (ws := (Cond.code yX8_goOn cX8_goOn 3 none :: wsL_law)) B.pre
  have hown : s.vm.findClass RX8 = some m.cls := findClass_of_methodNamed B.named
  have hlocks := B.notSynchronized
  have hsb : ∀ w ∈ wsL_law, w ∈ (Cond.code yX8_goOn cX8_goOn 3 none :: wsL_law) := fun _ h => List.mem_cons_of_mem _ h
  generalize va_A [(aM, .inr (8, [.ref aNw, .ref rM_kept, .ref rM_isKept, .ref rM_refused, .int M_at, .int M_fault, .ref aVs, .int M_valueMany, .ref aSg, .int M_signMany, .long M_tells, .int M_way, .int M_wish, .long M_moreTick, .long M_moreForce, .int M_runTurns, .long M_runFirst, .long M_runLast, .ref rM_was, .long M_peak, .long M_beside, .int M_besideAt])), (aNw, .inl (cNw, 139, .inr (.inl fNw))), (aVs, .inl (cVs, 64, .inr (.inl fVs))), (aSg, .inl (cSg, 128, .inl fSg))] s.heap.size = A at hq hA ⊢
  have iX8 : ∀ w ∈ u_ws RX8 TX8 22, w ∈ (Cond.code yX8_goOn cX8_goOn 3 none :: wsL_law) := fun w h => hsb w (bin_X8 w h)
  have lk0_ := hts _ (hsb _ wd_117)
  have lk1_ := hts _ (hsb _ wd_626)
  have lk2_ := hts _ (hsb _ wd_640)
  have lk3_ := hts _ (hsb _ wd_639)
  have hl := lv_entry ([.ref aM, .int p1]) (n := 3) (Nat.le_of_ble_eq_true rfl)
  rw [lg_entry_eq]
  generalize (lg_sl ([.ref aM, .int p1]) ++ List.replicate (3 - (lg_sl ([.ref aM, .int p1])).length) Slot.unset).toArray = ls at hl ⊢
  have hl : lv_has ls 3 [(0, .ref aM), (1, .int p1)] := hl
  refine lv_iconst (v := 1) hx hb dX8_goOn_0 (by decide) ?_
  refine lv_istore_n (lv' := [(2, .int 1), (0, .ref aM), (1, .int p1)]) hx hb dX8_goOn_1 rfl hl (by decide) rfl (fun ls hl => ?_)
  refine kk_loop15 (fun N2 (i : Int32) (at_ : Int32) (fl : Int32) (vn : Int32) (sm : Int32) (te : Int64) (rt : Int32) (rf : Int64) (rl : Int64) (pk : Int64) (be : Int64) (ba : Int32) (nf : Nat → Int64) (vf : Nat → Int64) (sf : Nat → Int32) (H : Heap) (locs : List Loc) (ls : Array Slot) => lpX8_goOn_2 p1 M_way M_wish M_moreTick M_moreForce (501) 1 M_at M_fault M_valueMany M_signMany M_tells M_runTurns M_runFirst M_runLast M_peak M_beside M_besideAt fNw fVs fSg = lpX8_goOn_2 p1 M_way M_wish M_moreTick M_moreForce N2 i at_ fl vn sm te rt rf rl pk be ba nf vf sf ∧ (1 ≤ i.toInt) ∧ (i.toInt ≤ 501) ∧ (i.toInt + N2 = 502) ∧ (WN_ nf) ∧ ((nf 6).toInt + N2 ≤ (fNw 6).toInt + 501) ∧ (FR_ fNw nf) ∧ lv_has ls 3 [(2, .int i), (0, .ref aM), (1, .int p1)] ∧ kAt G A s [(aM, .inr (8, [.ref aNw, .ref rM_kept, .ref rM_isKept, .ref rM_refused, .int at_, .int fl, .ref aVs, .int vn, .ref aSg, .int sm, .long te, .int M_way, .int M_wish, .long M_moreTick, .long M_moreForce, .int rt, .long rf, .long rl, .ref rM_was, .long pk, .long be, .int ba])), (aNw, .inl (cNw, 139, .inr (.inl nf))), (aVs, .inl (cVs, 64, .inr (.inl vf))), (aSg, .inl (cSg, 128, .inl sf))] H locs) 2 (fun i at_ fl vn sm te rt rf rl pk be ba nf vf sf => []) (fun i at_ fl vn sm te rt rf rl pk be ba nf vf sf H locs ls hv => ?_) (fun N2 i at_ fl vn sm te rt rf rl pk be ba nf vf sf H locs ls ih2 hv => ?_) (501) 1 M_at M_fault M_valueMany M_signMany M_tells M_runTurns M_runFirst M_runLast M_peak M_beside M_besideAt fNw fVs fSg _ _ _ ⟨rfl, (by decide), (by decide), (by decide), wn, (by omega), (fr_rf _), lv_sub hl [0, 1, 2] rfl, hq⟩
  · skip
    obtain ⟨hrel2, i0, i1, hN, wnf, t6f, frf, hl, hq⟩ := hv
    omega
  · skip
    obtain ⟨hrel2, i0, i1, hN, wnf, t6f, frf, hl, hq⟩ := hv
    refine lv_iload_n hx hb dX8_goOn_2 rfl (lv_at hl 0 rfl) ?_
    refine lv_iload_n hx hb dX8_goOn_3 rfl (lv_at hl 2 rfl) ?_
    refine lv_icmp_gt (tgt := 98) hx hb dX8_goOn_4 (by decide) (fun c_1 => ?_) (fun c_1 => ?_)
    · skip
      have hst_3 : lpX8_goOn_2 p1 M_way M_wish M_moreTick M_moreForce (N2 + 1) i at_ fl vn sm te rt rf rl pk be ba nf vf sf = ((i, at_, fl, vn, sm, te, rt, rf, rl, pk, be, ba, nf, vf, sf) : Int32 × Int32 × Int32 × Int32 × Int32 × Int64 × Int32 × Int64 × Int64 × Int64 × Int64 × Int32 × (Nat → Int64) × (Nat → Int64) × (Nat → Int32)) := by
        exact (if_pos c_1).trans (rfl)
      have hx_2 : ((i, at_, fl, vn, sm, te, rt, rf, rl, pk, be, ba, nf, vf, sf) : Int32 × Int32 × Int32 × Int32 × Int32 × Int64 × Int32 × Int64 × Int64 × Int64 × Int64 × Int32 × (Nat → Int64) × (Nat → Int64) × (Nat → Int32)) = lpX8_goOn_2 p1 M_way M_wish M_moreTick M_moreForce (501) 1 M_at M_fault M_valueMany M_signMany M_tells M_runTurns M_runFirst M_runLast M_peak M_beside M_besideAt fNw fVs fSg := (hrel2.trans (hst_3)).symm
      obtain ⟨z_4, gz_4⟩ : ∃ z : Int32 × Int32 × Int32 × Int32 × Int32 × Int64 × Int32 × Int64 × Int64 × Int64 × Int64 × Int32 × (Nat → Int64) × (Nat → Int64) × (Nat → Int32), z = (i, at_, fl, vn, sm, te, rt, rf, rl, pk, be, ba, nf, vf, sf) := ⟨_, rfl⟩
      have ez_4 : z_4 = lpX8_goOn_2 p1 M_way M_wish M_moreTick M_moreForce (501) 1 M_at M_fault M_valueMany M_signMany M_tells M_runTurns M_runFirst M_runLast M_peak M_beside M_besideAt fNw fVs fSg := gz_4.trans hx_2
      have hl : lv_has ls 3 [(2, .int z_4.1), (0, .ref aM), (1, .int p1)] := by subst gz_4; exact hl
      have hq : kAt G A s [(aM, .inr (8, [.ref aNw, .ref rM_kept, .ref rM_isKept, .ref rM_refused, .int z_4.2.1, .int z_4.2.2.1, .ref aVs, .int z_4.2.2.2.1, .ref aSg, .int z_4.2.2.2.2.1, .long z_4.2.2.2.2.2.1, .int M_way, .int M_wish, .long M_moreTick, .long M_moreForce, .int z_4.2.2.2.2.2.2.1, .long z_4.2.2.2.2.2.2.2.1, .long z_4.2.2.2.2.2.2.2.2.1, .ref rM_was, .long z_4.2.2.2.2.2.2.2.2.2.1, .long z_4.2.2.2.2.2.2.2.2.2.2.1, .int z_4.2.2.2.2.2.2.2.2.2.2.2.1])), (aNw, .inl (cNw, 139, .inr (.inl z_4.2.2.2.2.2.2.2.2.2.2.2.2.1))), (aVs, .inl (cVs, 64, .inr (.inl z_4.2.2.2.2.2.2.2.2.2.2.2.2.2.1))), (aSg, .inl (cSg, 128, .inl z_4.2.2.2.2.2.2.2.2.2.2.2.2.2.2))] H locs := by subst gz_4; exact hq
      have wnz : WN_ z_4.2.2.2.2.2.2.2.2.2.2.2.2.1 := by subst gz_4; exact wnf
      have t6z : (z_4.2.2.2.2.2.2.2.2.2.2.2.2.1 6).toInt ≤ (fNw 6).toInt + 501 := by subst gz_4; show (nf 6).toInt ≤ (fNw 6).toInt + 501; omega
      have frz : FR_ fNw z_4.2.2.2.2.2.2.2.2.2.2.2.2.1 := by subst gz_4; exact frf
      have hf : ((z_4.2.1, z_4.2.2.1, z_4.2.2.2.1, z_4.2.2.2.2.1, z_4.2.2.2.2.2.1, z_4.2.2.2.2.2.2.1, z_4.2.2.2.2.2.2.2.1, z_4.2.2.2.2.2.2.2.2.1, z_4.2.2.2.2.2.2.2.2.2.1, z_4.2.2.2.2.2.2.2.2.2.2.1, z_4.2.2.2.2.2.2.2.2.2.2.2.1, z_4.2.2.2.2.2.2.2.2.2.2.2.2.1, z_4.2.2.2.2.2.2.2.2.2.2.2.2.2.1, z_4.2.2.2.2.2.2.2.2.2.2.2.2.2.2) : Int32 × Int32 × Int32 × Int32 × Int64 × Int32 × Int64 × Int64 × Int64 × Int64 × Int32 × (Nat → Int64) × (Nat → Int64) × (Nat → Int32)) = fX8_goOn p1 M_at M_fault M_valueMany M_signMany M_tells M_way M_wish M_moreTick M_moreForce M_runTurns M_runFirst M_runLast M_peak M_beside M_besideAt fNw fVs fSg := by
        exact ((congrArg (fun (z_4 : Int32 × Int32 × Int32 × Int32 × Int32 × Int64 × Int32 × Int64 × Int64 × Int64 × Int64 × Int32 × (Nat → Int64) × (Nat → Int64) × (Nat → Int32)) => (((z_4.2.1, z_4.2.2.1, z_4.2.2.2.1, z_4.2.2.2.2.1, z_4.2.2.2.2.2.1, z_4.2.2.2.2.2.2.1, z_4.2.2.2.2.2.2.2.1, z_4.2.2.2.2.2.2.2.2.1, z_4.2.2.2.2.2.2.2.2.2.1, z_4.2.2.2.2.2.2.2.2.2.2.1, z_4.2.2.2.2.2.2.2.2.2.2.2.1, z_4.2.2.2.2.2.2.2.2.2.2.2.2.1, z_4.2.2.2.2.2.2.2.2.2.2.2.2.2.1, z_4.2.2.2.2.2.2.2.2.2.2.2.2.2.2)) : Int32 × Int32 × Int32 × Int32 × Int64 × Int32 × Int64 × Int64 × Int64 × Int64 × Int32 × (Nat → Int64) × (Nat → Int64) × (Nat → Int32))) ez_4.symm)).symm
      have en_0 : WN_ z_4.2.2.2.2.2.2.2.2.2.2.2.2.1 := by first | assumption | omega
      have en_1 : (z_4.2.2.2.2.2.2.2.2.2.2.2.2.1 6).toInt ≤ (fNw 6).toInt + 501 := by first | assumption | omega
      have en_2 : FR_ fNw z_4.2.2.2.2.2.2.2.2.2.2.2.2.1 := by first | assumption | omega
      exact kk_ev hx hb hr hlocks hK hq [0, 1, 2, 3] (z_4.2.1, z_4.2.2.1, z_4.2.2.2.1, z_4.2.2.2.2.1, z_4.2.2.2.2.2.1, z_4.2.2.2.2.2.2.1, z_4.2.2.2.2.2.2.2.1, z_4.2.2.2.2.2.2.2.2.1, z_4.2.2.2.2.2.2.2.2.2.1, z_4.2.2.2.2.2.2.2.2.2.2.1, z_4.2.2.2.2.2.2.2.2.2.2.2.1, z_4.2.2.2.2.2.2.2.2.2.2.2.2.1, z_4.2.2.2.2.2.2.2.2.2.2.2.2.2.1, z_4.2.2.2.2.2.2.2.2.2.2.2.2.2.2) rfl (by decide) dX8_goOn_98 ⟨hf, en_0, en_1, en_2⟩
    · skip
      have hi : i.toInt ≤ p1.toInt := by have h := c_1; rw [il_lt] at h; omega
      refine lv_aload_n hx hb dX8_goOn_7 rfl (lv_at hl 1 rfl) ?_
      refine kk_Vv (As := []) (rest := []) (wr := []) ⟨hx, hb, hml, hown, hts⟩ (c_X8_tickOnce l G aM aNw aVs aSg rM_kept rM_isKept rM_refused rM_was cNw cVs cSg at_ fl vn sm te M_way M_wish M_moreTick M_moreForce rt rf rl pk be ba nf vf sf wnf wh) (kk_cwV 0 hts hsb wd_540 wd_541 wd_542 wd_5 wd_543 rfl rfl hd_X8_tickOnce ⟨Nat.le_of_ble_eq_true rfl, Nat.le_of_ble_eq_true rfl⟩) hA hK hq [0, 1, 2, 3] [] [0, 1, 2] rfl rfl rfl (by decide) (by decide) (by decide) 0 8 rfl rfl rfl rfl hl.1 rfl (Nat.le_of_ble_eq_true rfl) dX8_goOn_8 ⟨Nat.zero_le _, Nat.zero_le _⟩ (fun u_5 H locs h_7 hq => ?_)
      have eu_5 := h_7
      have hq : kAt G A s [(aM, .inr (8, [.ref aNw, .ref rM_kept, .ref rM_isKept, .ref rM_refused, .int u_5.1, .int u_5.2.1, .ref aVs, .int u_5.2.2.1, .ref aSg, .int u_5.2.2.2.1, .long u_5.2.2.2.2.1, .int M_way, .int M_wish, .long M_moreTick, .long M_moreForce, .int u_5.2.2.2.2.2.1, .long u_5.2.2.2.2.2.2.1, .long u_5.2.2.2.2.2.2.2.1, .ref rM_was, .long pk, .long be, .int ba])), (aNw, .inl (cNw, 139, .inr (.inl u_5.2.2.2.2.2.2.2.2.1))), (aVs, .inl (cVs, 64, .inr (.inl u_5.2.2.2.2.2.2.2.2.2.1))), (aSg, .inl (cSg, 128, .inl u_5.2.2.2.2.2.2.2.2.2.2))] H locs := hq
      have afu_5 : AF_ nf u_5.2.2.2.2.2.2.2.2.1 := by rw [eu_5]; exact tick_AF _ _ _ _ _ _ _ _ _ _ _ _ _ _ _ wnf wh (by omega)
      have wnu_5 := AF_WN wnf afu_5
      have t6u_5 := afu_5.2.2.1.2
      have fru_5 := fr_tr frf afu_5.1
      refine lv_aload_n hx hb dX8_goOn_11 rfl (lv_at hl 1 rfl) ?_
      refine lv_aload_n hx hb dX8_goOn_12 rfl (lv_at hl 1 rfl) ?_
      refine kk_get (ci := 8) (v := .ref aNw) (C := RX8) (T := TX8) (N := 22) hx hb hts iX8 hown hK hq 0 rfl rfl 0 (by decide) lk0_ rfl dX8_goOn_13 ?_
      refine lv_iconst (v := 0) hx hb dX8_goOn_16 (by decide) ?_
      refine kk_lald hx hb hK hq 1 0 rfl rfl 0 rfl (by decide) (by decide) dX8_goOn_17 ?_
      refine kk_Sl (As := [.long (u_5.2.2.2.2.2.2.2.2.1 0)]) (rest := [.ref aM]) (wr := [(aM, .inr (8, [.ref aNw, .ref rM_kept, .ref rM_isKept, .ref rM_refused, .int u_5.1, .int u_5.2.1, .ref aVs, .int u_5.2.2.1, .ref aSg, .int u_5.2.2.2.1, .long u_5.2.2.2.2.1, .int M_way, .int M_wish, .long M_moreTick, .long M_moreForce, .int u_5.2.2.2.2.2.1, .long u_5.2.2.2.2.2.2.1, .long u_5.2.2.2.2.2.2.2.1, .ref rM_was, .long pk, .long be, .int ba])), (aNw, .inl (cNw, 139, .inr (.inl u_5.2.2.2.2.2.2.2.2.1))), (aVs, .inl (cVs, 64, .inr (.inl u_5.2.2.2.2.2.2.2.2.2.1))), (aSg, .inl (cSg, 128, .inl u_5.2.2.2.2.2.2.2.2.2.2))]) ⟨hx, hb, hml, hown, hts⟩ (c_X8_size l G (u_5.2.2.2.2.2.2.2.2.1 0)) (kk_cwS 1 hts hsb wd_401 wd_402 wd_5 wd_403 rfl rfl hd_X8_size ⟨Nat.le_of_ble_eq_true rfl, Nat.le_of_ble_eq_true rfl⟩) hA hK hq [] [0, 1, 2, 3] [] rfl rfl rfl (by decide) (by decide) (by decide) rfl hl.1 rfl (Nat.le_of_ble_eq_true rfl) dX8_goOn_18 ⟨Nat.zero_le _, Nat.zero_le _⟩ (fun r_9 u_8 H locs h_10 hq => ?_)
      have er_9 := h_10
      have hq : kAt G A s [(aM, .inr (8, [.ref aNw, .ref rM_kept, .ref rM_isKept, .ref rM_refused, .int u_5.1, .int u_5.2.1, .ref aVs, .int u_5.2.2.1, .ref aSg, .int u_5.2.2.2.1, .long u_5.2.2.2.2.1, .int M_way, .int M_wish, .long M_moreTick, .long M_moreForce, .int u_5.2.2.2.2.2.1, .long u_5.2.2.2.2.2.2.1, .long u_5.2.2.2.2.2.2.2.1, .ref rM_was, .long pk, .long be, .int ba])), (aNw, .inl (cNw, 139, .inr (.inl u_5.2.2.2.2.2.2.2.2.1))), (aVs, .inl (cVs, 64, .inr (.inl u_5.2.2.2.2.2.2.2.2.2.1))), (aSg, .inl (cSg, 128, .inl u_5.2.2.2.2.2.2.2.2.2.2))] H locs := hq
      refine lv_aload_n hx hb dX8_goOn_21 rfl (lv_at hl 1 rfl) ?_
      refine kk_get (ci := 8) (v := .long pk) (C := RX8) (T := TX8) (N := 22) hx hb hts iX8 hown hK hq 0 rfl rfl 19 (by decide) lk1_ rfl dX8_goOn_22 ?_
      refine kk_join1 (fun (z0_12 : Int64) (H : Heap) (locs : List Loc) (ls : Array Slot) => z0_12 = (if pk < r_9 then fX8_size (u_5.2.2.2.2.2.2.2.2.1 0) else pk) ∧ lv_has ls 3 [(2, .int i), (0, .ref aM), (1, .int p1)] ∧ kAt G A s [(aM, .inr (8, [.ref aNw, .ref rM_kept, .ref rM_isKept, .ref rM_refused, .int u_5.1, .int u_5.2.1, .ref aVs, .int u_5.2.2.1, .ref aSg, .int u_5.2.2.2.1, .long u_5.2.2.2.2.1, .int M_way, .int M_wish, .long M_moreTick, .long M_moreForce, .int u_5.2.2.2.2.2.1, .long u_5.2.2.2.2.2.2.1, .long u_5.2.2.2.2.2.2.2.1, .ref rM_was, .long pk, .long be, .int ba])), (aNw, .inl (cNw, 139, .inr (.inl u_5.2.2.2.2.2.2.2.2.1))), (aVs, .inl (cVs, 64, .inr (.inl u_5.2.2.2.2.2.2.2.2.2.1))), (aSg, .inl (cSg, 128, .inl u_5.2.2.2.2.2.2.2.2.2.2))] H locs) 45 (fun z0_12 => [.long z0_12, .ref aM]) (fun z0_12 H locs ls hv => ?_) (fun J_13 => ?_)
      · skip
        obtain ⟨ez0_12, hl, hq⟩ := hv
        refine kk_put (ws' := [(aM, .inr (8, [.ref aNw, .ref rM_kept, .ref rM_isKept, .ref rM_refused, .int u_5.1, .int u_5.2.1, .ref aVs, .int u_5.2.2.1, .ref aSg, .int u_5.2.2.2.1, .long u_5.2.2.2.2.1, .int M_way, .int M_wish, .long M_moreTick, .long M_moreForce, .int u_5.2.2.2.2.2.1, .long u_5.2.2.2.2.2.2.1, .long u_5.2.2.2.2.2.2.2.1, .ref rM_was, .long z0_12, .long be, .int ba])), (aNw, .inl (cNw, 139, .inr (.inl u_5.2.2.2.2.2.2.2.2.1))), (aVs, .inl (cVs, 64, .inr (.inl u_5.2.2.2.2.2.2.2.2.2.1))), (aSg, .inl (cSg, 128, .inl u_5.2.2.2.2.2.2.2.2.2.2))]) (ci := 8) (v := .long z0_12) (C := RX8) (T := TX8) (N := 22) hx hb hts iX8 tyX8_ok nmX8 hown hK hq 0 rfl rfl 19 (by decide) lk1_ rfl rfl rfl (Nat.le_of_ble_eq_true rfl) dX8_goOn_45 rfl (fun H locs hq => ?_)
        refine lv_aload_n hx hb dX8_goOn_48 rfl (lv_at hl 1 rfl) ?_
        refine kk_get (ci := 8) (v := .int ba) (C := RX8) (T := TX8) (N := 22) hx hb hts iX8 hown hK hq 0 rfl rfl 21 (by decide) lk2_ rfl dX8_goOn_49 ?_
        refine kk_join2 (fun (beside_15 : Int64) (besideAt_16 : Int32) (H : Heap) (locs : List Loc) (ls : Array Slot) => beside_15 = (if ba = 0 then fX8_size (u_5.2.2.2.2.2.2.2.2.1 10) else if be < fX8_size (u_5.2.2.2.2.2.2.2.2.1 10) then fX8_size (u_5.2.2.2.2.2.2.2.2.1 10) else be) ∧ besideAt_16 = (if ba = 0 then i else if be < fX8_size (u_5.2.2.2.2.2.2.2.2.1 10) then i else ba) ∧ lv_has ls 3 [(2, .int i), (0, .ref aM), (1, .int p1)] ∧ kAt G A s [(aM, .inr (8, [.ref aNw, .ref rM_kept, .ref rM_isKept, .ref rM_refused, .int u_5.1, .int u_5.2.1, .ref aVs, .int u_5.2.2.1, .ref aSg, .int u_5.2.2.2.1, .long u_5.2.2.2.2.1, .int M_way, .int M_wish, .long M_moreTick, .long M_moreForce, .int u_5.2.2.2.2.2.1, .long u_5.2.2.2.2.2.2.1, .long u_5.2.2.2.2.2.2.2.1, .ref rM_was, .long z0_12, .long beside_15, .int besideAt_16])), (aNw, .inl (cNw, 139, .inr (.inl u_5.2.2.2.2.2.2.2.2.1))), (aVs, .inl (cVs, 64, .inr (.inl u_5.2.2.2.2.2.2.2.2.2.1))), (aSg, .inl (cSg, 128, .inl u_5.2.2.2.2.2.2.2.2.2.2))] H locs) 92 (fun beside_15 besideAt_16 => []) (fun beside_15 besideAt_16 H locs ls hv => ?_) (fun J_17 => ?_)
        · skip
          obtain ⟨ebeside_15, ebesideAt_16, hl, hq⟩ := hv
          refine lv_iinc (v := i + 1) (lv' := [(2, .int (i + 1)), (0, .ref aM), (1, .int p1)]) hx hb dX8_goOn_92 hl (k := 0) rfl rfl (by decide) rfl (fun ls hl => ?_)
          refine lv_goto (tgt := 2) hx hb dX8_goOn_95 (by decide) ?_
          have hst_18 : lpX8_goOn_2 p1 M_way M_wish M_moreTick M_moreForce (N2 + 1) i at_ fl vn sm te rt rf rl pk be ba nf vf sf = lpX8_goOn_2 p1 M_way M_wish M_moreTick M_moreForce N2 (i + 1) u_5.1 u_5.2.1 u_5.2.2.1 u_5.2.2.2.1 u_5.2.2.2.2.1 u_5.2.2.2.2.2.1 u_5.2.2.2.2.2.2.1 u_5.2.2.2.2.2.2.2.1 z0_12 beside_15 besideAt_16 u_5.2.2.2.2.2.2.2.2.1 u_5.2.2.2.2.2.2.2.2.2.1 u_5.2.2.2.2.2.2.2.2.2.2 := by
            subst ebesideAt_16 ebeside_15 ez0_12 er_9 eu_5
            exact (if_neg c_1).trans (rfl)
          exact ih2 (i + 1) u_5.1 u_5.2.1 u_5.2.2.1 u_5.2.2.2.1 u_5.2.2.2.2.1 u_5.2.2.2.2.2.1 u_5.2.2.2.2.2.2.1 u_5.2.2.2.2.2.2.2.1 z0_12 beside_15 besideAt_16 u_5.2.2.2.2.2.2.2.2.1 u_5.2.2.2.2.2.2.2.2.2.1 u_5.2.2.2.2.2.2.2.2.2.2 _ _ _ ⟨(hrel2.trans (hst_18)), (by have := kk_inc (x := i) (by omega); omega), (by have := kk_inc (x := i) (by omega); omega), (by have := kk_inc (x := i) (by omega); omega), (by assumption), (by omega), (by assumption), lv_sub hl [0, 1, 2] rfl, hq⟩
        · skip
          refine lv_if_eq (tgt := 73) hx hb dX8_goOn_52 (by decide) (fun c_14 => ?_) (fun c_14 => ?_)
          · skip
            refine lv_aload_n hx hb dX8_goOn_73 rfl (lv_at hl 1 rfl) ?_
            refine lv_aload_n hx hb dX8_goOn_74 rfl (lv_at hl 1 rfl) ?_
            refine kk_get (ci := 8) (v := .ref aNw) (C := RX8) (T := TX8) (N := 22) hx hb hts iX8 hown hK hq 0 rfl rfl 0 (by decide) lk0_ rfl dX8_goOn_75 ?_
            refine lv_bipush (v := 10) hx hb dX8_goOn_78 (by decide) ?_
            refine kk_lald hx hb hK hq 1 0 rfl rfl 10 rfl (by decide) (by decide) dX8_goOn_80 ?_
            refine kk_Sl (As := [.long (u_5.2.2.2.2.2.2.2.2.1 10)]) (rest := [.ref aM]) (wr := [(aM, .inr (8, [.ref aNw, .ref rM_kept, .ref rM_isKept, .ref rM_refused, .int u_5.1, .int u_5.2.1, .ref aVs, .int u_5.2.2.1, .ref aSg, .int u_5.2.2.2.1, .long u_5.2.2.2.2.1, .int M_way, .int M_wish, .long M_moreTick, .long M_moreForce, .int u_5.2.2.2.2.2.1, .long u_5.2.2.2.2.2.2.1, .long u_5.2.2.2.2.2.2.2.1, .ref rM_was, .long z0_12, .long be, .int ba])), (aNw, .inl (cNw, 139, .inr (.inl u_5.2.2.2.2.2.2.2.2.1))), (aVs, .inl (cVs, 64, .inr (.inl u_5.2.2.2.2.2.2.2.2.2.1))), (aSg, .inl (cSg, 128, .inl u_5.2.2.2.2.2.2.2.2.2.2))]) ⟨hx, hb, hml, hown, hts⟩ (c_X8_size l G (u_5.2.2.2.2.2.2.2.2.1 10)) (kk_cwS 1 hts hsb wd_401 wd_402 wd_5 wd_403 rfl rfl hd_X8_size ⟨Nat.le_of_ble_eq_true rfl, Nat.le_of_ble_eq_true rfl⟩) hA hK hq [] [0, 1, 2, 3] [] rfl rfl rfl (by decide) (by decide) (by decide) rfl hl.1 rfl (Nat.le_of_ble_eq_true rfl) dX8_goOn_81 ⟨Nat.zero_le _, Nat.zero_le _⟩ (fun r_20 u_19 H locs h_21 hq => ?_)
            obtain rfl := h_21
            have hq : kAt G A s [(aM, .inr (8, [.ref aNw, .ref rM_kept, .ref rM_isKept, .ref rM_refused, .int u_5.1, .int u_5.2.1, .ref aVs, .int u_5.2.2.1, .ref aSg, .int u_5.2.2.2.1, .long u_5.2.2.2.2.1, .int M_way, .int M_wish, .long M_moreTick, .long M_moreForce, .int u_5.2.2.2.2.2.1, .long u_5.2.2.2.2.2.2.1, .long u_5.2.2.2.2.2.2.2.1, .ref rM_was, .long z0_12, .long be, .int ba])), (aNw, .inl (cNw, 139, .inr (.inl u_5.2.2.2.2.2.2.2.2.1))), (aVs, .inl (cVs, 64, .inr (.inl u_5.2.2.2.2.2.2.2.2.2.1))), (aSg, .inl (cSg, 128, .inl u_5.2.2.2.2.2.2.2.2.2.2))] H locs := hq
            refine kk_put (ws' := [(aM, .inr (8, [.ref aNw, .ref rM_kept, .ref rM_isKept, .ref rM_refused, .int u_5.1, .int u_5.2.1, .ref aVs, .int u_5.2.2.1, .ref aSg, .int u_5.2.2.2.1, .long u_5.2.2.2.2.1, .int M_way, .int M_wish, .long M_moreTick, .long M_moreForce, .int u_5.2.2.2.2.2.1, .long u_5.2.2.2.2.2.2.1, .long u_5.2.2.2.2.2.2.2.1, .ref rM_was, .long z0_12, .long (fX8_size (u_5.2.2.2.2.2.2.2.2.1 10)), .int ba])), (aNw, .inl (cNw, 139, .inr (.inl u_5.2.2.2.2.2.2.2.2.1))), (aVs, .inl (cVs, 64, .inr (.inl u_5.2.2.2.2.2.2.2.2.2.1))), (aSg, .inl (cSg, 128, .inl u_5.2.2.2.2.2.2.2.2.2.2))]) (ci := 8) (v := .long (fX8_size (u_5.2.2.2.2.2.2.2.2.1 10))) (C := RX8) (T := TX8) (N := 22) hx hb hts iX8 tyX8_ok nmX8 hown hK hq 0 rfl rfl 20 (by decide) lk3_ rfl rfl rfl (Nat.le_of_ble_eq_true rfl) dX8_goOn_84 rfl (fun H locs hq => ?_)
            refine lv_aload_n hx hb dX8_goOn_87 rfl (lv_at hl 1 rfl) ?_
            refine lv_iload_n hx hb dX8_goOn_88 rfl (lv_at hl 0 rfl) ?_
            refine kk_put (ws' := [(aM, .inr (8, [.ref aNw, .ref rM_kept, .ref rM_isKept, .ref rM_refused, .int u_5.1, .int u_5.2.1, .ref aVs, .int u_5.2.2.1, .ref aSg, .int u_5.2.2.2.1, .long u_5.2.2.2.2.1, .int M_way, .int M_wish, .long M_moreTick, .long M_moreForce, .int u_5.2.2.2.2.2.1, .long u_5.2.2.2.2.2.2.1, .long u_5.2.2.2.2.2.2.2.1, .ref rM_was, .long z0_12, .long (fX8_size (u_5.2.2.2.2.2.2.2.2.1 10)), .int i])), (aNw, .inl (cNw, 139, .inr (.inl u_5.2.2.2.2.2.2.2.2.1))), (aVs, .inl (cVs, 64, .inr (.inl u_5.2.2.2.2.2.2.2.2.2.1))), (aSg, .inl (cSg, 128, .inl u_5.2.2.2.2.2.2.2.2.2.2))]) (ci := 8) (v := .int i) (C := RX8) (T := TX8) (N := 22) hx hb hts iX8 tyX8_ok nmX8 hown hK hq 0 rfl rfl 21 (by decide) lk2_ rfl rfl rfl (Nat.le_of_ble_eq_true rfl) dX8_goOn_89 rfl (fun H locs hq => ?_)
            exact J_17 (fX8_size (u_5.2.2.2.2.2.2.2.2.1 10)) i _ _ _ ⟨(if_pos c_14).symm, (if_pos c_14).symm, lv_sub hl [0, 1, 2] rfl, hq⟩
          · skip
            refine lv_aload_n hx hb dX8_goOn_55 rfl (lv_at hl 1 rfl) ?_
            refine kk_get (ci := 8) (v := .ref aNw) (C := RX8) (T := TX8) (N := 22) hx hb hts iX8 hown hK hq 0 rfl rfl 0 (by decide) lk0_ rfl dX8_goOn_56 ?_
            refine lv_bipush (v := 10) hx hb dX8_goOn_59 (by decide) ?_
            refine kk_lald hx hb hK hq 1 0 rfl rfl 10 rfl (by decide) (by decide) dX8_goOn_61 ?_
            refine kk_Sl (As := [.long (u_5.2.2.2.2.2.2.2.2.1 10)]) (rest := []) (wr := [(aM, .inr (8, [.ref aNw, .ref rM_kept, .ref rM_isKept, .ref rM_refused, .int u_5.1, .int u_5.2.1, .ref aVs, .int u_5.2.2.1, .ref aSg, .int u_5.2.2.2.1, .long u_5.2.2.2.2.1, .int M_way, .int M_wish, .long M_moreTick, .long M_moreForce, .int u_5.2.2.2.2.2.1, .long u_5.2.2.2.2.2.2.1, .long u_5.2.2.2.2.2.2.2.1, .ref rM_was, .long z0_12, .long be, .int ba])), (aNw, .inl (cNw, 139, .inr (.inl u_5.2.2.2.2.2.2.2.2.1))), (aVs, .inl (cVs, 64, .inr (.inl u_5.2.2.2.2.2.2.2.2.2.1))), (aSg, .inl (cSg, 128, .inl u_5.2.2.2.2.2.2.2.2.2.2))]) ⟨hx, hb, hml, hown, hts⟩ (c_X8_size l G (u_5.2.2.2.2.2.2.2.2.1 10)) (kk_cwS 1 hts hsb wd_401 wd_402 wd_5 wd_403 rfl rfl hd_X8_size ⟨Nat.le_of_ble_eq_true rfl, Nat.le_of_ble_eq_true rfl⟩) hA hK hq [] [0, 1, 2, 3] [] rfl rfl rfl (by decide) (by decide) (by decide) rfl hl.1 rfl (Nat.le_of_ble_eq_true rfl) dX8_goOn_62 ⟨Nat.zero_le _, Nat.zero_le _⟩ (fun r_23 u_22 H locs h_24 hq => ?_)
            obtain rfl := h_24
            have hq : kAt G A s [(aM, .inr (8, [.ref aNw, .ref rM_kept, .ref rM_isKept, .ref rM_refused, .int u_5.1, .int u_5.2.1, .ref aVs, .int u_5.2.2.1, .ref aSg, .int u_5.2.2.2.1, .long u_5.2.2.2.2.1, .int M_way, .int M_wish, .long M_moreTick, .long M_moreForce, .int u_5.2.2.2.2.2.1, .long u_5.2.2.2.2.2.2.1, .long u_5.2.2.2.2.2.2.2.1, .ref rM_was, .long z0_12, .long be, .int ba])), (aNw, .inl (cNw, 139, .inr (.inl u_5.2.2.2.2.2.2.2.2.1))), (aVs, .inl (cVs, 64, .inr (.inl u_5.2.2.2.2.2.2.2.2.2.1))), (aSg, .inl (cSg, 128, .inl u_5.2.2.2.2.2.2.2.2.2.2))] H locs := hq
            refine lv_aload_n hx hb dX8_goOn_65 rfl (lv_at hl 1 rfl) ?_
            refine kk_get (ci := 8) (v := .long be) (C := RX8) (T := TX8) (N := 22) hx hb hts iX8 hown hK hq 0 rfl rfl 20 (by decide) lk3_ rfl dX8_goOn_66 ?_
            refine kk_lc_le (tgt := 92) hx hb dX8_goOn_69 dX8_goOn_70 (by decide) (fun c_25 => ?_) (fun c_25 => ?_)
            · skip
              exact J_17 be ba _ _ _ ⟨((if_neg c_14).trans (if_neg c_25)).symm, ((if_neg c_14).trans (if_neg c_25)).symm, lv_sub hl [0, 1, 2] rfl, hq⟩
            · skip
              refine lv_aload_n hx hb dX8_goOn_73 rfl (lv_at hl 1 rfl) ?_
              refine lv_aload_n hx hb dX8_goOn_74 rfl (lv_at hl 1 rfl) ?_
              refine kk_get (ci := 8) (v := .ref aNw) (C := RX8) (T := TX8) (N := 22) hx hb hts iX8 hown hK hq 0 rfl rfl 0 (by decide) lk0_ rfl dX8_goOn_75 ?_
              refine lv_bipush (v := 10) hx hb dX8_goOn_78 (by decide) ?_
              refine kk_lald hx hb hK hq 1 0 rfl rfl 10 rfl (by decide) (by decide) dX8_goOn_80 ?_
              refine kk_Sl (As := [.long (u_5.2.2.2.2.2.2.2.2.1 10)]) (rest := [.ref aM]) (wr := [(aM, .inr (8, [.ref aNw, .ref rM_kept, .ref rM_isKept, .ref rM_refused, .int u_5.1, .int u_5.2.1, .ref aVs, .int u_5.2.2.1, .ref aSg, .int u_5.2.2.2.1, .long u_5.2.2.2.2.1, .int M_way, .int M_wish, .long M_moreTick, .long M_moreForce, .int u_5.2.2.2.2.2.1, .long u_5.2.2.2.2.2.2.1, .long u_5.2.2.2.2.2.2.2.1, .ref rM_was, .long z0_12, .long be, .int ba])), (aNw, .inl (cNw, 139, .inr (.inl u_5.2.2.2.2.2.2.2.2.1))), (aVs, .inl (cVs, 64, .inr (.inl u_5.2.2.2.2.2.2.2.2.2.1))), (aSg, .inl (cSg, 128, .inl u_5.2.2.2.2.2.2.2.2.2.2))]) ⟨hx, hb, hml, hown, hts⟩ (c_X8_size l G (u_5.2.2.2.2.2.2.2.2.1 10)) (kk_cwS 1 hts hsb wd_401 wd_402 wd_5 wd_403 rfl rfl hd_X8_size ⟨Nat.le_of_ble_eq_true rfl, Nat.le_of_ble_eq_true rfl⟩) hA hK hq [] [0, 1, 2, 3] [] rfl rfl rfl (by decide) (by decide) (by decide) rfl hl.1 rfl (Nat.le_of_ble_eq_true rfl) dX8_goOn_81 ⟨Nat.zero_le _, Nat.zero_le _⟩ (fun r_27 u_26 H locs h_28 hq => ?_)
              obtain rfl := h_28
              have hq : kAt G A s [(aM, .inr (8, [.ref aNw, .ref rM_kept, .ref rM_isKept, .ref rM_refused, .int u_5.1, .int u_5.2.1, .ref aVs, .int u_5.2.2.1, .ref aSg, .int u_5.2.2.2.1, .long u_5.2.2.2.2.1, .int M_way, .int M_wish, .long M_moreTick, .long M_moreForce, .int u_5.2.2.2.2.2.1, .long u_5.2.2.2.2.2.2.1, .long u_5.2.2.2.2.2.2.2.1, .ref rM_was, .long z0_12, .long be, .int ba])), (aNw, .inl (cNw, 139, .inr (.inl u_5.2.2.2.2.2.2.2.2.1))), (aVs, .inl (cVs, 64, .inr (.inl u_5.2.2.2.2.2.2.2.2.2.1))), (aSg, .inl (cSg, 128, .inl u_5.2.2.2.2.2.2.2.2.2.2))] H locs := hq
              refine kk_put (ws' := [(aM, .inr (8, [.ref aNw, .ref rM_kept, .ref rM_isKept, .ref rM_refused, .int u_5.1, .int u_5.2.1, .ref aVs, .int u_5.2.2.1, .ref aSg, .int u_5.2.2.2.1, .long u_5.2.2.2.2.1, .int M_way, .int M_wish, .long M_moreTick, .long M_moreForce, .int u_5.2.2.2.2.2.1, .long u_5.2.2.2.2.2.2.1, .long u_5.2.2.2.2.2.2.2.1, .ref rM_was, .long z0_12, .long (fX8_size (u_5.2.2.2.2.2.2.2.2.1 10)), .int ba])), (aNw, .inl (cNw, 139, .inr (.inl u_5.2.2.2.2.2.2.2.2.1))), (aVs, .inl (cVs, 64, .inr (.inl u_5.2.2.2.2.2.2.2.2.2.1))), (aSg, .inl (cSg, 128, .inl u_5.2.2.2.2.2.2.2.2.2.2))]) (ci := 8) (v := .long (fX8_size (u_5.2.2.2.2.2.2.2.2.1 10))) (C := RX8) (T := TX8) (N := 22) hx hb hts iX8 tyX8_ok nmX8 hown hK hq 0 rfl rfl 20 (by decide) lk3_ rfl rfl rfl (Nat.le_of_ble_eq_true rfl) dX8_goOn_84 rfl (fun H locs hq => ?_)
              refine lv_aload_n hx hb dX8_goOn_87 rfl (lv_at hl 1 rfl) ?_
              refine lv_iload_n hx hb dX8_goOn_88 rfl (lv_at hl 0 rfl) ?_
              refine kk_put (ws' := [(aM, .inr (8, [.ref aNw, .ref rM_kept, .ref rM_isKept, .ref rM_refused, .int u_5.1, .int u_5.2.1, .ref aVs, .int u_5.2.2.1, .ref aSg, .int u_5.2.2.2.1, .long u_5.2.2.2.2.1, .int M_way, .int M_wish, .long M_moreTick, .long M_moreForce, .int u_5.2.2.2.2.2.1, .long u_5.2.2.2.2.2.2.1, .long u_5.2.2.2.2.2.2.2.1, .ref rM_was, .long z0_12, .long (fX8_size (u_5.2.2.2.2.2.2.2.2.1 10)), .int i])), (aNw, .inl (cNw, 139, .inr (.inl u_5.2.2.2.2.2.2.2.2.1))), (aVs, .inl (cVs, 64, .inr (.inl u_5.2.2.2.2.2.2.2.2.2.1))), (aSg, .inl (cSg, 128, .inl u_5.2.2.2.2.2.2.2.2.2.2))]) (ci := 8) (v := .int i) (C := RX8) (T := TX8) (N := 22) hx hb hts iX8 tyX8_ok nmX8 hown hK hq 0 rfl rfl 21 (by decide) lk2_ rfl rfl rfl (Nat.le_of_ble_eq_true rfl) dX8_goOn_89 rfl (fun H locs hq => ?_)
              exact J_17 (fX8_size (u_5.2.2.2.2.2.2.2.2.1 10)) i _ _ _ ⟨((if_neg c_14).trans (if_pos c_25)).symm, ((if_neg c_14).trans (if_pos c_25)).symm, lv_sub hl [0, 1, 2] rfl, hq⟩
      · skip
        refine kk_lc_le (tgt := 41) hx hb dX8_goOn_25 dX8_goOn_26 (by decide) (fun c_11 => ?_) (fun c_11 => ?_)
        · skip
          refine lv_aload_n hx hb dX8_goOn_41 rfl (lv_at hl 1 rfl) ?_
          refine kk_get (ci := 8) (v := .long pk) (C := RX8) (T := TX8) (N := 22) hx hb hts iX8 hown hK hq 0 rfl rfl 19 (by decide) lk1_ rfl dX8_goOn_42 ?_
          exact J_13 pk _ _ _ ⟨(if_neg c_11).symm, lv_sub hl [0, 1, 2] rfl, hq⟩
        · skip
          refine lv_aload_n hx hb dX8_goOn_29 rfl (lv_at hl 1 rfl) ?_
          refine kk_get (ci := 8) (v := .ref aNw) (C := RX8) (T := TX8) (N := 22) hx hb hts iX8 hown hK hq 0 rfl rfl 0 (by decide) lk0_ rfl dX8_goOn_30 ?_
          refine lv_iconst (v := 0) hx hb dX8_goOn_33 (by decide) ?_
          refine kk_lald hx hb hK hq 1 0 rfl rfl 0 rfl (by decide) (by decide) dX8_goOn_34 ?_
          refine kk_Sl (As := [.long (u_5.2.2.2.2.2.2.2.2.1 0)]) (rest := [.ref aM]) (wr := [(aM, .inr (8, [.ref aNw, .ref rM_kept, .ref rM_isKept, .ref rM_refused, .int u_5.1, .int u_5.2.1, .ref aVs, .int u_5.2.2.1, .ref aSg, .int u_5.2.2.2.1, .long u_5.2.2.2.2.1, .int M_way, .int M_wish, .long M_moreTick, .long M_moreForce, .int u_5.2.2.2.2.2.1, .long u_5.2.2.2.2.2.2.1, .long u_5.2.2.2.2.2.2.2.1, .ref rM_was, .long pk, .long be, .int ba])), (aNw, .inl (cNw, 139, .inr (.inl u_5.2.2.2.2.2.2.2.2.1))), (aVs, .inl (cVs, 64, .inr (.inl u_5.2.2.2.2.2.2.2.2.2.1))), (aSg, .inl (cSg, 128, .inl u_5.2.2.2.2.2.2.2.2.2.2))]) ⟨hx, hb, hml, hown, hts⟩ (c_X8_size l G (u_5.2.2.2.2.2.2.2.2.1 0)) (kk_cwS 1 hts hsb wd_401 wd_402 wd_5 wd_403 rfl rfl hd_X8_size ⟨Nat.le_of_ble_eq_true rfl, Nat.le_of_ble_eq_true rfl⟩) hA hK hq [] [0, 1, 2, 3] [] rfl rfl rfl (by decide) (by decide) (by decide) rfl hl.1 rfl (Nat.le_of_ble_eq_true rfl) dX8_goOn_35 ⟨Nat.zero_le _, Nat.zero_le _⟩ (fun r_30 u_29 H locs h_31 hq => ?_)
          obtain rfl := h_31
          have hq : kAt G A s [(aM, .inr (8, [.ref aNw, .ref rM_kept, .ref rM_isKept, .ref rM_refused, .int u_5.1, .int u_5.2.1, .ref aVs, .int u_5.2.2.1, .ref aSg, .int u_5.2.2.2.1, .long u_5.2.2.2.2.1, .int M_way, .int M_wish, .long M_moreTick, .long M_moreForce, .int u_5.2.2.2.2.2.1, .long u_5.2.2.2.2.2.2.1, .long u_5.2.2.2.2.2.2.2.1, .ref rM_was, .long pk, .long be, .int ba])), (aNw, .inl (cNw, 139, .inr (.inl u_5.2.2.2.2.2.2.2.2.1))), (aVs, .inl (cVs, 64, .inr (.inl u_5.2.2.2.2.2.2.2.2.2.1))), (aSg, .inl (cSg, 128, .inl u_5.2.2.2.2.2.2.2.2.2.2))] H locs := hq
          refine lv_goto (tgt := 45) hx hb dX8_goOn_38 (by decide) ?_
          exact J_13 (fX8_size (u_5.2.2.2.2.2.2.2.2.1 0)) _ _ _ ⟨(if_pos c_11).symm, lv_sub hl [0, 1, 2] rfl, hq⟩
