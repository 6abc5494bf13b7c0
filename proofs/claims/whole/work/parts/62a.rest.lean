theorem kk_dec2 {x : Int32} (h : -2147483648 < x.toInt) : (x + (-1)).toInt = x.toInt - 1 := by
  have h1 := il_hi x
  have h2 : (-1 : Int32).toInt = -1 := rfl
  rw [kk_addi (by omega) (by omega), h2]
  omega
theorem lt8_ {z : Int} (h : z ≤ 8) (h2 : z ≠ 8) : z < 8 := by omega
theorem ix_2 {x : Int32} (c : Nat) (h0 : 0 ≤ x.toInt) (h1 : x.toInt < 8) (hc : c < 125) : nI c + 2 * x = nI (c + 2 * x.toNatClampNeg) ∧ c + 2 * x.toNatClampNeg < 139 := by
  have h2 := kk_clN h0
  refine ⟨?_, by omega⟩
  have h3 := kk_cl h0
  have h4 : (2 : Int32) * x = nI (2 * x.toNatClampNeg) := by
    conv => lhs; rw [h3]
    exact pk_mul 2 _
  rw [h4]
  exact nI_add c _
theorem rem40 {x : Int64} (h0 : 0 ≤ x.toInt) : (x - x / 40 * 40).toInt32 = nI (x.toInt.toNat % 40) := by
  obtain ⟨k, hk, rfl⟩ := pk_lOf (x := x) (by rw [jl_lt]; have : (0 : Int64).toInt = 0 := rfl; omega)
  have := pk_lRem (a := k) (b := 40) hk (by decide) (by decide)
  have e : lN k - lN k / 40 * 40 = lN (k % 40) := this
  rw [e, lN_i, pk_lT hk]
  simp
theorem ix_40 {x : Int64} (h0 : 0 ≤ x.toInt) : 13 + (x - x / 40 * 40).toInt32 = nI (13 + x.toInt.toNat % 40) ∧ 13 + x.toInt.toNat % 40 < 139 := by
  rw [rem40 h0]
  refine ⟨nI_add 13 _, ?_⟩
  have : x.toInt.toNat % 40 < 40 := Nat.mod_lt _ (by decide)
  omega
theorem ix_139 {x i : Int32} (h0 : 0 ≤ x.toInt) (h1 : x.toInt ≤ 1) (i0 : 0 ≤ i.toInt) (i1 : i.toInt < 139) : 139 * x + i = nI (139 * x.toNatClampNeg + i.toNatClampNeg) ∧ 139 * x.toNatClampNeg + i.toNatClampNeg < 278 := by
  have h2 := kk_clN h0
  have h3 := kk_clN i0
  refine ⟨?_, by omega⟩
  have e1 := kk_cl h0
  have e2 := kk_cl i0
  conv => lhs; rw [e1, e2]
  have e3 : (139 : Int32) * nI x.toNatClampNeg = nI (139 * x.toNatClampNeg) := pk_mul 139 _
  rw [e3]
  exact nI_add _ _
theorem hd_X8_isForce : yX8_isForce.cls ≠ "java/lang/invoke/MethodHandle" ∧ yX8_isForce.cls ≠ "java/lang/invoke/VarHandle" ∧ (parseMethodDescriptor yX8_isForce.desc).map (fun d => d.parameters.length) = some 1 := by decide +kernel
theorem hd_X8_pushMany : yX8_pushMany.cls = RX8 ∧ yX8_pushMany.cls ≠ "java/lang/invoke/MethodHandle" ∧ yX8_pushMany.cls ≠ "java/lang/invoke/VarHandle" ∧ (parseMethodDescriptor yX8_pushMany.desc).map (fun d => d.parameters.length) = some 0 := by decide +kernel
def fX8_push (p1 : Int32) (p2 : Int32) (fNw : Nat → Int64) (fRf : Nat → Int32) : Int32 × (Nat → Int64) × (Nat → Int32) :=
  let r_2 : Int32 := fX8_in p1.toInt64 0 9999
  if r_2 = 0 then (
    let r_6 : Int32 := (fX8_bad (-2) fRf).1
    let u_5 : Nat → Int32 := (fX8_bad (-2) fRf).2
    (r_6, fNw, u_5))
  else (
    let r_9 : Int32 := fX8_isForce p2
    if r_9 = 0 then (
      let r_17 : Int32 := (fX8_bad (-2) fRf).1
      let u_16 : Nat → Int32 := (fX8_bad (-2) fRf).2
      (r_17, fNw, u_16))
    else (
      let r_13 : Int32 := fX8_pushMany fNw
      if r_13 = 8 then (
        ((-4), fNw, upd fRf 2 ((fRf 2) + 1)))
      else (
        (r_13 + 1, vp_updL (vp_updL (vp_updL fNw (123 + 2 * r_13.toNatClampNeg) p1.toInt64) (124 + 2 * r_13.toNatClampNeg) p2.toInt64) 122 (((vp_updL (vp_updL fNw (123 + 2 * r_13.toNatClampNeg) p1.toInt64) (124 + 2 * r_13.toNatClampNeg) p2.toInt64) 122) + 1), fRf))))

set_option maxHeartbeats 4000000 in
set_option maxRecDepth 100000 in
theorem c_X8_push (l : Launch) (G : va_G) (aM aNw aRf rM_kept rM_isKept rM_values rM_signs rM_was : Nat) (cNw cRf : ClassId) (p1 : Int32) (p2 : Int32) (M_at : Int32) (M_fault : Int32) (M_valueMany : Int32) (M_signMany : Int32) (M_tells : Int64) (M_way : Int32) (M_wish : Int32) (M_moreTick : Int64) (M_moreForce : Int64) (M_runTurns : Int32) (M_runFirst : Int64) (M_runLast : Int64) (M_peak : Int64) (M_beside : Int64) (M_besideAt : Int32) (fNw : Nat → Int64) (fRf : Nat → Int32) (m0 : 0 ≤ (fNw 122).toInt32.toInt) (m8 : (fNw 122).toInt32.toInt ≤ 8) : kCi l yX8_push (Cond.code yX8_push cX8_push 4 (some .int) :: wsL_law) ({ frames := 2, cells := 0, slots := 0, locals := 45 }) G [(cNw, .long), (cRf, .int)] [.ref aM, .int p1, .int p2] [(aM, .inr (8, [.ref aNw, .ref rM_kept, .ref rM_isKept, .ref aRf, .int M_at, .int M_fault, .ref rM_values, .int M_valueMany, .ref rM_signs, .int M_signMany, .long M_tells, .int M_way, .int M_wish, .long M_moreTick, .long M_moreForce, .int M_runTurns, .long M_runFirst, .long M_runLast, .ref rM_was, .long M_peak, .long M_beside, .int M_besideAt])), (aNw, .inl (cNw, 139, .inr (.inl fNw))), (aRf, .inl (cRf, 3, .inl fRf))] (fun (r : Int32) (u : (Nat → Int64) × (Nat → Int32)) => r = (fX8_push p1 p2 fNw fRf).1 ∧ u = (fX8_push p1 p2 fNw fRf).2) (fun (u : (Nat → Int64) × (Nat → Int32)) => [(aM, .inr (8, [.ref aNw, .ref rM_kept, .ref rM_isKept, .ref aRf, .int M_at, .int M_fault, .ref rM_values, .int M_valueMany, .ref rM_signs, .int M_signMany, .long M_tells, .int M_way, .int M_wish, .long M_moreTick, .long M_moreForce, .int M_runTurns, .long M_runFirst, .long M_runLast, .ref rM_was, .long M_peak, .long M_beside, .int M_besideAt])), (aNw, .inl (cNw, 139, .inr (.inl u.1))), (aRf, .inl (cRf, 3, .inl u.2))]) := by
  intro sz
  refine Met.ofW (cc := cX8_push) (maxL := 4) (ret := (some .int)) (by decide) rfl ?_
  intro p e s m args below meth c s₁ B hml hv
  obtain ⟨rfl, hv⟩ := hv
  obtain ⟨rfl, hK, hq, hA⟩ := kk_begin hv
  have hx := B.exec
  have hb := B.bytes
  have hr := B.returns
  have hts := atoms_spec (ws := (Cond.code yX8_push cX8_push 4 (some .int) :: wsL_law)) B.pre
  have hown : s.vm.findClass RX8 = some m.cls := findClass_of_methodNamed B.named
  have hlocks := B.notSynchronized
  have hsb : ∀ w ∈ wsL_law, w ∈ (Cond.code yX8_push cX8_push 4 (some .int) :: wsL_law) := fun _ h => List.mem_cons_of_mem _ h
  generalize va_A [(aM, .inr (8, [.ref aNw, .ref rM_kept, .ref rM_isKept, .ref aRf, .int M_at, .int M_fault, .ref rM_values, .int M_valueMany, .ref rM_signs, .int M_signMany, .long M_tells, .int M_way, .int M_wish, .long M_moreTick, .long M_moreForce, .int M_runTurns, .long M_runFirst, .long M_runLast, .ref rM_was, .long M_peak, .long M_beside, .int M_besideAt])), (aNw, .inl (cNw, 139, .inr (.inl fNw))), (aRf, .inl (cRf, 3, .inl fRf))] s.heap.size = A at hq hA ⊢
  have iX8 : ∀ w ∈ u_ws RX8 TX8 22, w ∈ (Cond.code yX8_push cX8_push 4 (some .int) :: wsL_law) := fun w h => hsb w (bin_X8 w h)
  have lk0_ := hts _ (hsb _ wd_345)
  have lk1_ := hts _ (hsb _ wd_117)
  have lk2_ := hts _ (hsb _ wd_120)
  have hl := lv_entry ([.ref aM, .int p1, .int p2]) (n := 4) (Nat.le_of_ble_eq_true rfl)
  rw [lg_entry_eq]
  generalize (lg_sl ([.ref aM, .int p1, .int p2]) ++ List.replicate (4 - (lg_sl ([.ref aM, .int p1, .int p2])).length) Slot.unset).toArray = ls at hl ⊢
  have hl : lv_has ls 4 [(0, .ref aM), (1, .int p1), (2, .int p2)] := hl
  refine lv_iload_n hx hb dX8_push_0 rfl (lv_at hl 1 rfl) ?_
  refine lv_i2l hx hb dX8_push_1 rfl ?_
  refine lv_lconst (v := 0) hx hb dX8_push_2 (by decide) ?_
  refine lv_ldc2 hx hb hown lk0_ dX8_push_3 ?_
  refine kk_Si (As := [.long p1.toInt64, .long 0, .long 9999]) (rest := []) (wr := [(aM, .inr (8, [.ref aNw, .ref rM_kept, .ref rM_isKept, .ref aRf, .int M_at, .int M_fault, .ref rM_values, .int M_valueMany, .ref rM_signs, .int M_signMany, .long M_tells, .int M_way, .int M_wish, .long M_moreTick, .long M_moreForce, .int M_runTurns, .long M_runFirst, .long M_runLast, .ref rM_was, .long M_peak, .long M_beside, .int M_besideAt])), (aNw, .inl (cNw, 139, .inr (.inl fNw))), (aRf, .inl (cRf, 3, .inl fRf))]) ⟨hx, hb, hml, hown, hts⟩ (c_X8_in l G p1.toInt64 0 9999) (kk_cwS 3 hts hsb wd_156 wd_157 wd_5 wd_158 rfl rfl hd_X8_in ⟨Nat.le_of_ble_eq_true rfl, Nat.le_of_ble_eq_true rfl⟩) hA hK hq [] [0, 1, 2] [] rfl rfl rfl (by decide) (by decide) (by decide) rfl hl.1 rfl (Nat.le_of_ble_eq_true rfl) dX8_push_6 ⟨Nat.zero_le _, Nat.zero_le _⟩ (fun r_2 u_1 H locs h_3 hq => ?_)
  obtain ⟨er_2, zr_2⟩ := h_3
  have hq : kAt G A s [(aM, .inr (8, [.ref aNw, .ref rM_kept, .ref rM_isKept, .ref aRf, .int M_at, .int M_fault, .ref rM_values, .int M_valueMany, .ref rM_signs, .int M_signMany, .long M_tells, .int M_way, .int M_wish, .long M_moreTick, .long M_moreForce, .int M_runTurns, .long M_runFirst, .long M_runLast, .ref rM_was, .long M_peak, .long M_beside, .int M_besideAt])), (aNw, .inl (cNw, 139, .inr (.inl fNw))), (aRf, .inl (cRf, 3, .inl fRf))] H locs := hq
  refine lv_if_eq (tgt := 19) hx hb dX8_push_9 (by decide) (fun c_4 => ?_) (fun c_4 => ?_)
  · skip
    refine lv_aload_n hx hb dX8_push_19 rfl (lv_at hl 0 rfl) ?_
    refine lv_bipush (v := -2) hx hb dX8_push_20 (by decide) ?_
    refine kk_Vi (As := [.int (-2)]) (rest := []) (wr := [(aNw, .inl (cNw, 139, .inr (.inl fNw)))]) ⟨hx, hb, hml, hown, hts⟩ (c_X8_bad l G aM aRf aNw rM_kept rM_isKept rM_values rM_signs rM_was cRf (-2) M_at M_fault M_valueMany M_signMany M_tells M_way M_wish M_moreTick M_moreForce M_runTurns M_runFirst M_runLast M_peak M_beside M_besideAt fRf) (kk_cwV 1 hts hsb wd_159 wd_160 wd_161 wd_5 wd_162 rfl rfl hd_X8_bad ⟨Nat.le_of_ble_eq_true rfl, Nat.le_of_ble_eq_true rfl⟩) hA hK hq [0, 2] [1] [1] rfl rfl rfl (by decide) (by decide) (by decide) 0 8 rfl rfl rfl rfl hl.1 rfl (Nat.le_of_ble_eq_true rfl) dX8_push_22 ⟨Nat.zero_le _, Nat.zero_le _⟩ (fun r_6 u_5 H locs h_7 hq => ?_)
    obtain ⟨er_6, eu_5⟩ := h_7
    have hq : kAt G A s [(aNw, .inl (cNw, 139, .inr (.inl fNw))), (aM, .inr (8, [.ref aNw, .ref rM_kept, .ref rM_isKept, .ref aRf, .int M_at, .int M_fault, .ref rM_values, .int M_valueMany, .ref rM_signs, .int M_signMany, .long M_tells, .int M_way, .int M_wish, .long M_moreTick, .long M_moreForce, .int M_runTurns, .long M_runFirst, .long M_runLast, .ref rM_was, .long M_peak, .long M_beside, .int M_besideAt])), (aRf, .inl (cRf, 3, .inl u_5))] H locs := hq
    have hf : ((r_6, fNw, u_5) : Int32 × (Nat → Int64) × (Nat → Int32)) = fX8_push p1 p2 fNw fRf := by
      exact ((congrArg (fun (r_2 : Int32) => ((if r_2 = 0 then (
    let r_6 : Int32 := (fX8_bad (-2) fRf).1
    let u_5 : Nat → Int32 := (fX8_bad (-2) fRf).2
    (r_6, fNw, u_5))
  else (
    let r_9 : Int32 := fX8_isForce p2
    if r_9 = 0 then (
      let r_17 : Int32 := (fX8_bad (-2) fRf).1
      let u_16 : Nat → Int32 := (fX8_bad (-2) fRf).2
      (r_17, fNw, u_16))
    else (
      let r_13 : Int32 := fX8_pushMany fNw
      if r_13 = 8 then (
        ((-4), fNw, upd fRf 2 ((fRf 2) + 1)))
      else (
        (r_13 + 1, vp_updL (vp_updL (vp_updL fNw (123 + 2 * r_13.toNatClampNeg) p1.toInt64) (124 + 2 * r_13.toNatClampNeg) p2.toInt64) 122 (((vp_updL (vp_updL fNw (123 + 2 * r_13.toNatClampNeg) p1.toInt64) (124 + 2 * r_13.toNatClampNeg) p2.toInt64) 122) + 1), fRf))))) : Int32 × (Nat → Int64) × (Nat → Int32))) er_2.symm).trans ((if_pos c_4).trans ((congrArg (fun (r_6 : Int32) => ((let u_5 : Nat → Int32 := (fX8_bad (-2) fRf).2
  (r_6, fNw, u_5)) : Int32 × (Nat → Int64) × (Nat → Int32))) er_6.symm).trans ((congrArg (fun (u_5 : Nat → Int32) => (((r_6, fNw, u_5)) : Int32 × (Nat → Int64) × (Nat → Int32))) eu_5.symm))))).symm
    have hf1 := congrArg Prod.fst hf
    have hf2 := congrArg Prod.snd hf
    exact kk_ei hx hb hr hlocks hK hq [1, 0, 2] (fNw, u_5) rfl (by decide) dX8_push_25 ⟨hf1, hf2⟩
  · skip
    refine lv_iload_n hx hb dX8_push_12 rfl (lv_at hl 2 rfl) ?_
    refine kk_Si (As := [.int p2]) (rest := []) (wr := [(aM, .inr (8, [.ref aNw, .ref rM_kept, .ref rM_isKept, .ref aRf, .int M_at, .int M_fault, .ref rM_values, .int M_valueMany, .ref rM_signs, .int M_signMany, .long M_tells, .int M_way, .int M_wish, .long M_moreTick, .long M_moreForce, .int M_runTurns, .long M_runFirst, .long M_runLast, .ref rM_was, .long M_peak, .long M_beside, .int M_besideAt])), (aNw, .inl (cNw, 139, .inr (.inl fNw))), (aRf, .inl (cRf, 3, .inl fRf))]) ⟨hx, hb, hml, hown, hts⟩ (c_X8_isForce l G p2) (kk_cwS 1 hts hsb wd_346 wd_347 wd_5 wd_348 rfl rfl hd_X8_isForce ⟨Nat.le_of_ble_eq_true rfl, Nat.le_of_ble_eq_true rfl⟩) hA hK hq [] [0, 1, 2] [] rfl rfl rfl (by decide) (by decide) (by decide) rfl hl.1 rfl (Nat.le_of_ble_eq_true rfl) dX8_push_13 ⟨Nat.zero_le _, Nat.zero_le _⟩ (fun r_9 u_8 H locs h_10 hq => ?_)
    obtain ⟨er_9, zr_9⟩ := h_10
    have hq : kAt G A s [(aM, .inr (8, [.ref aNw, .ref rM_kept, .ref rM_isKept, .ref aRf, .int M_at, .int M_fault, .ref rM_values, .int M_valueMany, .ref rM_signs, .int M_signMany, .long M_tells, .int M_way, .int M_wish, .long M_moreTick, .long M_moreForce, .int M_runTurns, .long M_runFirst, .long M_runLast, .ref rM_was, .long M_peak, .long M_beside, .int M_besideAt])), (aNw, .inl (cNw, 139, .inr (.inl fNw))), (aRf, .inl (cRf, 3, .inl fRf))] H locs := hq
    refine lv_if_ne (tgt := 26) hx hb dX8_push_16 (by decide) (fun c_11 => ?_) (fun c_11 => ?_)
    · skip
      refine lv_aload_n hx hb dX8_push_26 rfl (lv_at hl 0 rfl) ?_
      refine kk_Vi (As := []) (rest := []) (wr := [(aRf, .inl (cRf, 3, .inl fRf))]) ⟨hx, hb, hml, hown, hts⟩ (c_X8_pushMany l G aM aNw rM_kept rM_isKept aRf rM_values rM_signs rM_was cNw M_at M_fault M_valueMany M_signMany M_tells M_way M_wish M_moreTick M_moreForce M_runTurns M_runFirst M_runLast M_peak M_beside M_besideAt fNw) (kk_cwV 0 hts hsb wd_351 wd_352 wd_353 wd_5 wd_354 rfl rfl hd_X8_pushMany ⟨Nat.le_of_ble_eq_true rfl, Nat.le_of_ble_eq_true rfl⟩) hA hK hq [0, 1] [2] [0] rfl rfl rfl (by decide) (by decide) (by decide) 0 8 rfl rfl rfl rfl hl.1 rfl (Nat.le_of_ble_eq_true rfl) dX8_push_27 ⟨Nat.zero_le _, Nat.zero_le _⟩ (fun r_13 u_12 H locs h_14 hq => ?_)
      have er_13 := h_14
      have hq : kAt G A s [(aRf, .inl (cRf, 3, .inl fRf)), (aM, .inr (8, [.ref aNw, .ref rM_kept, .ref rM_isKept, .ref aRf, .int M_at, .int M_fault, .ref rM_values, .int M_valueMany, .ref rM_signs, .int M_signMany, .long M_tells, .int M_way, .int M_wish, .long M_moreTick, .long M_moreForce, .int M_runTurns, .long M_runFirst, .long M_runLast, .ref rM_was, .long M_peak, .long M_beside, .int M_besideAt])), (aNw, .inl (cNw, 139, .inr (.inl fNw)))] H locs := hq
      have a0r_13 : 0 ≤ r_13.toInt := by rw [er_13]; exact m0
      have a8f : r_13.toInt ≤ 8 := by rw [er_13]; exact m8
      refine lv_istore_n (lv' := [(3, .int r_13), (0, .ref aM), (1, .int p1), (2, .int p2)]) hx hb dX8_push_30 rfl hl (by decide) rfl (fun ls hl => ?_)
      refine lv_iload_n hx hb dX8_push_31 rfl (lv_at hl 0 rfl) ?_
      refine lv_bipush (v := 8) hx hb dX8_push_32 (by decide) ?_
      refine lv_icmp_ne (tgt := 50) hx hb dX8_push_34 (by decide) (fun c_15 => ?_) (fun c_15 => ?_)
      · skip
        have h8 := kk_ne (k := 8) c_15 rfl
        have h9 := lt8_ a8f h8
        refine lv_aload_n hx hb dX8_push_50 rfl (lv_at hl 1 rfl) ?_
        refine kk_get (ci := 8) (v := .ref aNw) (C := RX8) (T := TX8) (N := 22) hx hb hts iX8 hown hK hq 1 rfl rfl 0 (by decide) lk1_ rfl dX8_push_51 ?_
        refine lv_bipush (v := 123) hx hb dX8_push_54 (by decide) ?_
        refine lv_iconst (v := 2) hx hb dX8_push_56 (by decide) ?_
        refine lv_iload_n hx hb dX8_push_57 rfl (lv_at hl 0 rfl) ?_
        refine lv_imul hx hb dX8_push_58 ?_
        refine lv_iadd hx hb dX8_push_59 ?_
        refine lv_iload_n hx hb dX8_push_60 rfl (lv_at hl 2 rfl) ?_
        refine lv_i2l hx hb dX8_push_61 rfl ?_
        refine kk_last (ws' := [(aRf, .inl (cRf, 3, .inl fRf)), (aM, .inr (8, [.ref aNw, .ref rM_kept, .ref rM_isKept, .ref aRf, .int M_at, .int M_fault, .ref rM_values, .int M_valueMany, .ref rM_signs, .int M_signMany, .long M_tells, .int M_way, .int M_wish, .long M_moreTick, .long M_moreForce, .int M_runTurns, .long M_runFirst, .long M_runLast, .ref rM_was, .long M_peak, .long M_beside, .int M_besideAt])), (aNw, .inl (cNw, 139, .inr (.inl (vp_updL fNw (123 + 2 * r_13.toNatClampNeg) p1.toInt64))))]) hx hb hK hq 2 0 rfl rfl (123 + 2 * r_13.toNatClampNeg) (ix_2 123 (by assumption) (by assumption) (by decide)).1 (ix_2 123 (by assumption) (by assumption) (by decide)).2 (by decide) dX8_push_62 rfl (fun H locs hq => ?_)
        refine lv_aload_n hx hb dX8_push_63 rfl (lv_at hl 1 rfl) ?_
        refine kk_get (ci := 8) (v := .ref aNw) (C := RX8) (T := TX8) (N := 22) hx hb hts iX8 hown hK hq 1 rfl rfl 0 (by decide) lk1_ rfl dX8_push_64 ?_
        refine lv_bipush (v := 124) hx hb dX8_push_67 (by decide) ?_
        refine lv_iconst (v := 2) hx hb dX8_push_69 (by decide) ?_
        refine lv_iload_n hx hb dX8_push_70 rfl (lv_at hl 0 rfl) ?_
        refine lv_imul hx hb dX8_push_71 ?_
        refine lv_iadd hx hb dX8_push_72 ?_
        refine lv_iload_n hx hb dX8_push_73 rfl (lv_at hl 3 rfl) ?_
        refine lv_i2l hx hb dX8_push_74 rfl ?_
        refine kk_last (ws' := [(aRf, .inl (cRf, 3, .inl fRf)), (aM, .inr (8, [.ref aNw, .ref rM_kept, .ref rM_isKept, .ref aRf, .int M_at, .int M_fault, .ref rM_values, .int M_valueMany, .ref rM_signs, .int M_signMany, .long M_tells, .int M_way, .int M_wish, .long M_moreTick, .long M_moreForce, .int M_runTurns, .long M_runFirst, .long M_runLast, .ref rM_was, .long M_peak, .long M_beside, .int M_besideAt])), (aNw, .inl (cNw, 139, .inr (.inl (vp_updL (vp_updL fNw (123 + 2 * r_13.toNatClampNeg) p1.toInt64) (124 + 2 * r_13.toNatClampNeg) p2.toInt64))))]) hx hb hK hq 2 0 rfl rfl (124 + 2 * r_13.toNatClampNeg) (ix_2 124 (by assumption) (by assumption) (by decide)).1 (ix_2 124 (by assumption) (by assumption) (by decide)).2 (by decide) dX8_push_75 rfl (fun H locs hq => ?_)
        refine lv_aload_n hx hb dX8_push_76 rfl (lv_at hl 1 rfl) ?_
        refine kk_get (ci := 8) (v := .ref aNw) (C := RX8) (T := TX8) (N := 22) hx hb hts iX8 hown hK hq 1 rfl rfl 0 (by decide) lk1_ rfl dX8_push_77 ?_
        refine lv_bipush (v := 122) hx hb dX8_push_80 (by decide) ?_
        refine lv_dup2_11 hx hb dX8_push_82 rfl rfl ?_
        refine kk_lald hx hb hK hq 2 0 rfl rfl 122 rfl (by decide) (by decide) dX8_push_83 ?_
        refine lv_lconst (v := 1) hx hb dX8_push_84 (by decide) ?_
        refine lv_ladd hx hb dX8_push_85 ?_
        refine kk_last (ws' := [(aRf, .inl (cRf, 3, .inl fRf)), (aM, .inr (8, [.ref aNw, .ref rM_kept, .ref rM_isKept, .ref aRf, .int M_at, .int M_fault, .ref rM_values, .int M_valueMany, .ref rM_signs, .int M_signMany, .long M_tells, .int M_way, .int M_wish, .long M_moreTick, .long M_moreForce, .int M_runTurns, .long M_runFirst, .long M_runLast, .ref rM_was, .long M_peak, .long M_beside, .int M_besideAt])), (aNw, .inl (cNw, 139, .inr (.inl (vp_updL (vp_updL (vp_updL fNw (123 + 2 * r_13.toNatClampNeg) p1.toInt64) (124 + 2 * r_13.toNatClampNeg) p2.toInt64) 122 (((vp_updL (vp_updL fNw (123 + 2 * r_13.toNatClampNeg) p1.toInt64) (124 + 2 * r_13.toNatClampNeg) p2.toInt64) 122) + 1)))))]) hx hb hK hq 2 0 rfl rfl 122 rfl (by decide) (by decide) dX8_push_86 rfl (fun H locs hq => ?_)
        refine lv_iload_n hx hb dX8_push_87 rfl (lv_at hl 0 rfl) ?_
        refine lv_iconst (v := 1) hx hb dX8_push_88 (by decide) ?_
        refine lv_iadd hx hb dX8_push_89 ?_
        have hf : ((r_13 + 1, vp_updL (vp_updL (vp_updL fNw (123 + 2 * r_13.toNatClampNeg) p1.toInt64) (124 + 2 * r_13.toNatClampNeg) p2.toInt64) 122 (((vp_updL (vp_updL fNw (123 + 2 * r_13.toNatClampNeg) p1.toInt64) (124 + 2 * r_13.toNatClampNeg) p2.toInt64) 122) + 1), fRf) : Int32 × (Nat → Int64) × (Nat → Int32)) = fX8_push p1 p2 fNw fRf := by
          exact ((congrArg (fun (r_2 : Int32) => ((if r_2 = 0 then (
    let r_6 : Int32 := (fX8_bad (-2) fRf).1
    let u_5 : Nat → Int32 := (fX8_bad (-2) fRf).2
    (r_6, fNw, u_5))
  else (
    let r_9 : Int32 := fX8_isForce p2
    if r_9 = 0 then (
      let r_17 : Int32 := (fX8_bad (-2) fRf).1
      let u_16 : Nat → Int32 := (fX8_bad (-2) fRf).2
      (r_17, fNw, u_16))
    else (
      let r_13 : Int32 := fX8_pushMany fNw
      if r_13 = 8 then (
        ((-4), fNw, upd fRf 2 ((fRf 2) + 1)))
      else (
        (r_13 + 1, vp_updL (vp_updL (vp_updL fNw (123 + 2 * r_13.toNatClampNeg) p1.toInt64) (124 + 2 * r_13.toNatClampNeg) p2.toInt64) 122 (((vp_updL (vp_updL fNw (123 + 2 * r_13.toNatClampNeg) p1.toInt64) (124 + 2 * r_13.toNatClampNeg) p2.toInt64) 122) + 1), fRf))))) : Int32 × (Nat → Int64) × (Nat → Int32))) er_2.symm).trans ((if_neg c_4).trans ((congrArg (fun (r_9 : Int32) => ((if r_9 = 0 then (
    let r_17 : Int32 := (fX8_bad (-2) fRf).1
    let u_16 : Nat → Int32 := (fX8_bad (-2) fRf).2
    (r_17, fNw, u_16))
  else (
    let r_13 : Int32 := fX8_pushMany fNw
    if r_13 = 8 then (
      ((-4), fNw, upd fRf 2 ((fRf 2) + 1)))
    else (
      (r_13 + 1, vp_updL (vp_updL (vp_updL fNw (123 + 2 * r_13.toNatClampNeg) p1.toInt64) (124 + 2 * r_13.toNatClampNeg) p2.toInt64) 122 (((vp_updL (vp_updL fNw (123 + 2 * r_13.toNatClampNeg) p1.toInt64) (124 + 2 * r_13.toNatClampNeg) p2.toInt64) 122) + 1), fRf)))) : Int32 × (Nat → Int64) × (Nat → Int32))) er_9.symm).trans ((if_neg c_11).trans ((congrArg (fun (r_13 : Int32) => ((if r_13 = 8 then (
    ((-4), fNw, upd fRf 2 ((fRf 2) + 1)))
  else (
    (r_13 + 1, vp_updL (vp_updL (vp_updL fNw (123 + 2 * r_13.toNatClampNeg) p1.toInt64) (124 + 2 * r_13.toNatClampNeg) p2.toInt64) 122 (((vp_updL (vp_updL fNw (123 + 2 * r_13.toNatClampNeg) p1.toInt64) (124 + 2 * r_13.toNatClampNeg) p2.toInt64) 122) + 1), fRf))) : Int32 × (Nat → Int64) × (Nat → Int32))) er_13.symm).trans ((if_neg c_15))))))).symm
        have hf1 := congrArg Prod.fst hf
        have hf2 := congrArg Prod.snd hf
        exact kk_ei hx hb hr hlocks hK hq [1, 2, 0] (vp_updL (vp_updL (vp_updL fNw (123 + 2 * r_13.toNatClampNeg) p1.toInt64) (124 + 2 * r_13.toNatClampNeg) p2.toInt64) 122 (((vp_updL (vp_updL fNw (123 + 2 * r_13.toNatClampNeg) p1.toInt64) (124 + 2 * r_13.toNatClampNeg) p2.toInt64) 122) + 1), fRf) rfl (by decide) dX8_push_90 ⟨hf1, hf2⟩
      · skip
        refine lv_aload_n hx hb dX8_push_37 rfl (lv_at hl 1 rfl) ?_
        refine kk_get (ci := 8) (v := .ref aRf) (C := RX8) (T := TX8) (N := 22) hx hb hts iX8 hown hK hq 1 rfl rfl 3 (by decide) lk2_ rfl dX8_push_38 ?_
        refine lv_iconst (v := 2) hx hb dX8_push_41 (by decide) ?_
        refine lv_dup2_11 hx hb dX8_push_42 rfl rfl ?_
        refine kk_iald hx hb hK hq 0 1 rfl rfl 2 rfl (by decide) (by decide) dX8_push_43 ?_
        refine lv_iconst (v := 1) hx hb dX8_push_44 (by decide) ?_
        refine lv_iadd hx hb dX8_push_45 ?_
        refine kk_iast (ws' := [(aRf, .inl (cRf, 3, .inl (upd fRf 2 ((fRf 2) + 1)))), (aM, .inr (8, [.ref aNw, .ref rM_kept, .ref rM_isKept, .ref aRf, .int M_at, .int M_fault, .ref rM_values, .int M_valueMany, .ref rM_signs, .int M_signMany, .long M_tells, .int M_way, .int M_wish, .long M_moreTick, .long M_moreForce, .int M_runTurns, .long M_runFirst, .long M_runLast, .ref rM_was, .long M_peak, .long M_beside, .int M_besideAt])), (aNw, .inl (cNw, 139, .inr (.inl fNw)))]) hx hb hK hq 0 1 rfl rfl 2 rfl (by decide) (by decide) dX8_push_46 rfl (fun H locs hq => ?_)
        refine lv_bipush (v := -4) hx hb dX8_push_47 (by decide) ?_
        have hf : (((-4), fNw, upd fRf 2 ((fRf 2) + 1)) : Int32 × (Nat → Int64) × (Nat → Int32)) = fX8_push p1 p2 fNw fRf := by
          exact ((congrArg (fun (r_2 : Int32) => ((if r_2 = 0 then (
    let r_6 : Int32 := (fX8_bad (-2) fRf).1
    let u_5 : Nat → Int32 := (fX8_bad (-2) fRf).2
    (r_6, fNw, u_5))
  else (
    let r_9 : Int32 := fX8_isForce p2
    if r_9 = 0 then (
      let r_17 : Int32 := (fX8_bad (-2) fRf).1
      let u_16 : Nat → Int32 := (fX8_bad (-2) fRf).2
      (r_17, fNw, u_16))
    else (
      let r_13 : Int32 := fX8_pushMany fNw
      if r_13 = 8 then (
        ((-4), fNw, upd fRf 2 ((fRf 2) + 1)))
      else (
        (r_13 + 1, vp_updL (vp_updL (vp_updL fNw (123 + 2 * r_13.toNatClampNeg) p1.toInt64) (124 + 2 * r_13.toNatClampNeg) p2.toInt64) 122 (((vp_updL (vp_updL fNw (123 + 2 * r_13.toNatClampNeg) p1.toInt64) (124 + 2 * r_13.toNatClampNeg) p2.toInt64) 122) + 1), fRf))))) : Int32 × (Nat → Int64) × (Nat → Int32))) er_2.symm).trans ((if_neg c_4).trans ((congrArg (fun (r_9 : Int32) => ((if r_9 = 0 then (
    let r_17 : Int32 := (fX8_bad (-2) fRf).1
    let u_16 : Nat → Int32 := (fX8_bad (-2) fRf).2
    (r_17, fNw, u_16))
  else (
    let r_13 : Int32 := fX8_pushMany fNw
    if r_13 = 8 then (
      ((-4), fNw, upd fRf 2 ((fRf 2) + 1)))
    else (
      (r_13 + 1, vp_updL (vp_updL (vp_updL fNw (123 + 2 * r_13.toNatClampNeg) p1.toInt64) (124 + 2 * r_13.toNatClampNeg) p2.toInt64) 122 (((vp_updL (vp_updL fNw (123 + 2 * r_13.toNatClampNeg) p1.toInt64) (124 + 2 * r_13.toNatClampNeg) p2.toInt64) 122) + 1), fRf)))) : Int32 × (Nat → Int64) × (Nat → Int32))) er_9.symm).trans ((if_neg c_11).trans ((congrArg (fun (r_13 : Int32) => ((if r_13 = 8 then (
    ((-4), fNw, upd fRf 2 ((fRf 2) + 1)))
  else (
    (r_13 + 1, vp_updL (vp_updL (vp_updL fNw (123 + 2 * r_13.toNatClampNeg) p1.toInt64) (124 + 2 * r_13.toNatClampNeg) p2.toInt64) 122 (((vp_updL (vp_updL fNw (123 + 2 * r_13.toNatClampNeg) p1.toInt64) (124 + 2 * r_13.toNatClampNeg) p2.toInt64) 122) + 1), fRf))) : Int32 × (Nat → Int64) × (Nat → Int32))) er_13.symm).trans ((if_pos c_15))))))).symm
        have hf1 := congrArg Prod.fst hf
        have hf2 := congrArg Prod.snd hf
        exact kk_ei hx hb hr hlocks hK hq [1, 2, 0] (fNw, upd fRf 2 ((fRf 2) + 1)) rfl (by decide) dX8_push_49 ⟨hf1, hf2⟩
    · skip
      refine lv_aload_n hx hb dX8_push_19 rfl (lv_at hl 0 rfl) ?_
      refine lv_bipush (v := -2) hx hb dX8_push_20 (by decide) ?_
      refine kk_Vi (As := [.int (-2)]) (rest := []) (wr := [(aNw, .inl (cNw, 139, .inr (.inl fNw)))]) ⟨hx, hb, hml, hown, hts⟩ (c_X8_bad l G aM aRf aNw rM_kept rM_isKept rM_values rM_signs rM_was cRf (-2) M_at M_fault M_valueMany M_signMany M_tells M_way M_wish M_moreTick M_moreForce M_runTurns M_runFirst M_runLast M_peak M_beside M_besideAt fRf) (kk_cwV 1 hts hsb wd_159 wd_160 wd_161 wd_5 wd_162 rfl rfl hd_X8_bad ⟨Nat.le_of_ble_eq_true rfl, Nat.le_of_ble_eq_true rfl⟩) hA hK hq [0, 2] [1] [1] rfl rfl rfl (by decide) (by decide) (by decide) 0 8 rfl rfl rfl rfl hl.1 rfl (Nat.le_of_ble_eq_true rfl) dX8_push_22 ⟨Nat.zero_le _, Nat.zero_le _⟩ (fun r_17 u_16 H locs h_18 hq => ?_)
      obtain ⟨er_17, eu_16⟩ := h_18
      have hq : kAt G A s [(aNw, .inl (cNw, 139, .inr (.inl fNw))), (aM, .inr (8, [.ref aNw, .ref rM_kept, .ref rM_isKept, .ref aRf, .int M_at, .int M_fault, .ref rM_values, .int M_valueMany, .ref rM_signs, .int M_signMany, .long M_tells, .int M_way, .int M_wish, .long M_moreTick, .long M_moreForce, .int M_runTurns, .long M_runFirst, .long M_runLast, .ref rM_was, .long M_peak, .long M_beside, .int M_besideAt])), (aRf, .inl (cRf, 3, .inl u_16))] H locs := hq
      have hf : ((r_17, fNw, u_16) : Int32 × (Nat → Int64) × (Nat → Int32)) = fX8_push p1 p2 fNw fRf := by
        exact ((congrArg (fun (r_2 : Int32) => ((if r_2 = 0 then (
    let r_6 : Int32 := (fX8_bad (-2) fRf).1
    let u_5 : Nat → Int32 := (fX8_bad (-2) fRf).2
    (r_6, fNw, u_5))
  else (
    let r_9 : Int32 := fX8_isForce p2
    if r_9 = 0 then (
      let r_17 : Int32 := (fX8_bad (-2) fRf).1
      let u_16 : Nat → Int32 := (fX8_bad (-2) fRf).2
      (r_17, fNw, u_16))
    else (
      let r_13 : Int32 := fX8_pushMany fNw
      if r_13 = 8 then (
        ((-4), fNw, upd fRf 2 ((fRf 2) + 1)))
      else (
        (r_13 + 1, vp_updL (vp_updL (vp_updL fNw (123 + 2 * r_13.toNatClampNeg) p1.toInt64) (124 + 2 * r_13.toNatClampNeg) p2.toInt64) 122 (((vp_updL (vp_updL fNw (123 + 2 * r_13.toNatClampNeg) p1.toInt64) (124 + 2 * r_13.toNatClampNeg) p2.toInt64) 122) + 1), fRf))))) : Int32 × (Nat → Int64) × (Nat → Int32))) er_2.symm).trans ((if_neg c_4).trans ((congrArg (fun (r_9 : Int32) => ((if r_9 = 0 then (
    let r_17 : Int32 := (fX8_bad (-2) fRf).1
    let u_16 : Nat → Int32 := (fX8_bad (-2) fRf).2
    (r_17, fNw, u_16))
  else (
    let r_13 : Int32 := fX8_pushMany fNw
    if r_13 = 8 then (
      ((-4), fNw, upd fRf 2 ((fRf 2) + 1)))
    else (
      (r_13 + 1, vp_updL (vp_updL (vp_updL fNw (123 + 2 * r_13.toNatClampNeg) p1.toInt64) (124 + 2 * r_13.toNatClampNeg) p2.toInt64) 122 (((vp_updL (vp_updL fNw (123 + 2 * r_13.toNatClampNeg) p1.toInt64) (124 + 2 * r_13.toNatClampNeg) p2.toInt64) 122) + 1), fRf)))) : Int32 × (Nat → Int64) × (Nat → Int32))) er_9.symm).trans ((if_pos c_11).trans ((congrArg (fun (r_17 : Int32) => ((let u_16 : Nat → Int32 := (fX8_bad (-2) fRf).2
  (r_17, fNw, u_16)) : Int32 × (Nat → Int64) × (Nat → Int32))) er_17.symm).trans ((congrArg (fun (u_16 : Nat → Int32) => (((r_17, fNw, u_16)) : Int32 × (Nat → Int64) × (Nat → Int32))) eu_16.symm))))))).symm
      have hf1 := congrArg Prod.fst hf
      have hf2 := congrArg Prod.snd hf
      exact kk_ei hx hb hr hlocks hK hq [1, 0, 2] (fNw, u_16) rfl (by decide) dX8_push_25 ⟨hf1, hf2⟩
def fX8_rest (fNw : Nat → Int64) : Int32 × (Nat → Int64) :=
  let r_2 : Int32 := fX8_pushMany fNw
  let fNw_4 : Nat → Int64 := vp_updL fNw 122 0
  (r_2, fNw_4)

set_option maxHeartbeats 4000000 in
set_option maxRecDepth 100000 in
theorem c_X8_rest (l : Launch) (G : va_G) (aM aNw rM_kept rM_isKept rM_refused rM_values rM_signs rM_was : Nat) (cNw : ClassId) (M_at : Int32) (M_fault : Int32) (M_valueMany : Int32) (M_signMany : Int32) (M_tells : Int64) (M_way : Int32) (M_wish : Int32) (M_moreTick : Int64) (M_moreForce : Int64) (M_runTurns : Int32) (M_runFirst : Int64) (M_runLast : Int64) (M_peak : Int64) (M_beside : Int64) (M_besideAt : Int32) (fNw : Nat → Int64) : kCi l yX8_rest (Cond.code yX8_rest cX8_rest 2 (some .int) :: wsL_law) ({ frames := 1, cells := 0, slots := 0, locals := 20 }) G [(cNw, .long)] [.ref aM] [(aM, .inr (8, [.ref aNw, .ref rM_kept, .ref rM_isKept, .ref rM_refused, .int M_at, .int M_fault, .ref rM_values, .int M_valueMany, .ref rM_signs, .int M_signMany, .long M_tells, .int M_way, .int M_wish, .long M_moreTick, .long M_moreForce, .int M_runTurns, .long M_runFirst, .long M_runLast, .ref rM_was, .long M_peak, .long M_beside, .int M_besideAt])), (aNw, .inl (cNw, 139, .inr (.inl fNw)))] (fun (r : Int32) (u : Nat → Int64) => r = (fX8_rest fNw).1 ∧ u = (fX8_rest fNw).2) (fun (u : Nat → Int64) => [(aM, .inr (8, [.ref aNw, .ref rM_kept, .ref rM_isKept, .ref rM_refused, .int M_at, .int M_fault, .ref rM_values, .int M_valueMany, .ref rM_signs, .int M_signMany, .long M_tells, .int M_way, .int M_wish, .long M_moreTick, .long M_moreForce, .int M_runTurns, .long M_runFirst, .long M_runLast, .ref rM_was, .long M_peak, .long M_beside, .int M_besideAt])), (aNw, .inl (cNw, 139, .inr (.inl u)))]) := by
  intro sz
  refine Met.ofW (cc := cX8_rest) (maxL := 2) (ret := (some .int)) (by decide) rfl ?_
  intro p e s m args below meth c s₁ B hml hv
  obtain ⟨rfl, hv⟩ := hv
  obtain ⟨rfl, hK, hq, hA⟩ := kk_begin hv
  have hx := B.exec
  have hb := B.bytes
  have hr := B.returns
  have hts := atoms_spec (ws := (Cond.code yX8_rest cX8_rest 2 (some .int) :: wsL_law)) B.pre
  have hown : s.vm.findClass RX8 = some m.cls := findClass_of_methodNamed B.named
  have hlocks := B.notSynchronized
  have hsb : ∀ w ∈ wsL_law, w ∈ (Cond.code yX8_rest cX8_rest 2 (some .int) :: wsL_law) := fun _ h => List.mem_cons_of_mem _ h
  generalize va_A [(aM, .inr (8, [.ref aNw, .ref rM_kept, .ref rM_isKept, .ref rM_refused, .int M_at, .int M_fault, .ref rM_values, .int M_valueMany, .ref rM_signs, .int M_signMany, .long M_tells, .int M_way, .int M_wish, .long M_moreTick, .long M_moreForce, .int M_runTurns, .long M_runFirst, .long M_runLast, .ref rM_was, .long M_peak, .long M_beside, .int M_besideAt])), (aNw, .inl (cNw, 139, .inr (.inl fNw)))] s.heap.size = A at hq hA ⊢
  have iX8 : ∀ w ∈ u_ws RX8 TX8 22, w ∈ (Cond.code yX8_rest cX8_rest 2 (some .int) :: wsL_law) := fun w h => hsb w (bin_X8 w h)
  have lk0_ := hts _ (hsb _ wd_117)
  have hl := lv_entry ([.ref aM]) (n := 2) (Nat.le_of_ble_eq_true rfl)
  rw [lg_entry_eq]
  generalize (lg_sl ([.ref aM]) ++ List.replicate (2 - (lg_sl ([.ref aM])).length) Slot.unset).toArray = ls at hl ⊢
  have hl : lv_has ls 2 [(0, .ref aM)] := hl
  refine lv_aload_n hx hb dX8_rest_0 rfl (lv_at hl 0 rfl) ?_
  refine kk_Vi (As := []) (rest := []) (wr := []) ⟨hx, hb, hml, hown, hts⟩ (c_X8_pushMany l G aM aNw rM_kept rM_isKept rM_refused rM_values rM_signs rM_was cNw M_at M_fault M_valueMany M_signMany M_tells M_way M_wish M_moreTick M_moreForce M_runTurns M_runFirst M_runLast M_peak M_beside M_besideAt fNw) (kk_cwV 0 hts hsb wd_351 wd_352 wd_353 wd_5 wd_354 rfl rfl hd_X8_pushMany ⟨Nat.le_of_ble_eq_true rfl, Nat.le_of_ble_eq_true rfl⟩) hA hK hq [0, 1] [] [0] rfl rfl rfl (by decide) (by decide) (by decide) 0 8 rfl rfl rfl rfl hl.1 rfl (Nat.le_of_ble_eq_true rfl) dX8_rest_1 ⟨Nat.zero_le _, Nat.zero_le _⟩ (fun r_2 u_1 H locs h_3 hq => ?_)
  have er_2 := h_3
  have hq : kAt G A s [(aM, .inr (8, [.ref aNw, .ref rM_kept, .ref rM_isKept, .ref rM_refused, .int M_at, .int M_fault, .ref rM_values, .int M_valueMany, .ref rM_signs, .int M_signMany, .long M_tells, .int M_way, .int M_wish, .long M_moreTick, .long M_moreForce, .int M_runTurns, .long M_runFirst, .long M_runLast, .ref rM_was, .long M_peak, .long M_beside, .int M_besideAt])), (aNw, .inl (cNw, 139, .inr (.inl fNw)))] H locs := hq
  refine lv_istore_n (lv' := [(1, .int r_2), (0, .ref aM)]) hx hb dX8_rest_4 rfl hl (by decide) rfl (fun ls hl => ?_)
  refine lv_aload_n hx hb dX8_rest_5 rfl (lv_at hl 1 rfl) ?_
  refine kk_get (ci := 8) (v := .ref aNw) (C := RX8) (T := TX8) (N := 22) hx hb hts iX8 hown hK hq 0 rfl rfl 0 (by decide) lk0_ rfl dX8_rest_6 ?_
  refine lv_bipush (v := 122) hx hb dX8_rest_9 (by decide) ?_
  refine lv_lconst (v := 0) hx hb dX8_rest_11 (by decide) ?_
  refine kk_last (ws' := [(aM, .inr (8, [.ref aNw, .ref rM_kept, .ref rM_isKept, .ref rM_refused, .int M_at, .int M_fault, .ref rM_values, .int M_valueMany, .ref rM_signs, .int M_signMany, .long M_tells, .int M_way, .int M_wish, .long M_moreTick, .long M_moreForce, .int M_runTurns, .long M_runFirst, .long M_runLast, .ref rM_was, .long M_peak, .long M_beside, .int M_besideAt])), (aNw, .inl (cNw, 139, .inr (.inl (vp_updL fNw 122 0))))]) hx hb hK hq 1 0 rfl rfl 122 rfl (by decide) (by decide) dX8_rest_12 rfl (fun H locs hq => ?_)
  obtain ⟨fNw_4, efNw_4⟩ : ∃ z : Nat → Int64, z = vp_updL fNw 122 0 := ⟨_, rfl⟩
  rw [← efNw_4] at hq
  refine lv_iload_n hx hb dX8_rest_13 rfl (lv_at hl 0 rfl) ?_
  have hf : ((r_2, fNw_4) : Int32 × (Nat → Int64)) = fX8_rest fNw := by
    exact ((congrArg (fun (r_2 : Int32) => ((let fNw_4 : Nat → Int64 := vp_updL fNw 122 0
  (r_2, fNw_4)) : Int32 × (Nat → Int64))) er_2.symm).trans ((congrArg (fun (fNw_4 : Nat → Int64) => (((r_2, fNw_4)) : Int32 × (Nat → Int64))) efNw_4.symm))).symm
  have hf1 := congrArg Prod.fst hf
  have hf2 := congrArg Prod.snd hf
  exact kk_ei hx hb hr hlocks hK hq [0, 1] fNw_4 rfl (by decide) dX8_rest_14 ⟨hf1, hf2⟩
def fX8_lengthNow (fNw : Nat → Int64) : Int64 :=
  let r_2 : Int64 := fX8_of 0 fNw
  let r_5 : Int64 := fX8_of 3 fNw
  r_2 - (r_5 * (fNw 2))

set_option maxHeartbeats 4000000 in
set_option maxRecDepth 100000 in
theorem c_X8_lengthNow (l : Launch) (G : va_G) (aM aNw rM_kept rM_isKept rM_refused rM_values rM_signs rM_was : Nat) (cNw : ClassId) (M_at : Int32) (M_fault : Int32) (M_valueMany : Int32) (M_signMany : Int32) (M_tells : Int64) (M_way : Int32) (M_wish : Int32) (M_moreTick : Int64) (M_moreForce : Int64) (M_runTurns : Int32) (M_runFirst : Int64) (M_runLast : Int64) (M_peak : Int64) (M_beside : Int64) (M_besideAt : Int32) (fNw : Nat → Int64) : kCl l yX8_lengthNow (Cond.code yX8_lengthNow cX8_lengthNow 1 (some .long) :: wsL_law) ({ frames := 1, cells := 0, slots := 0, locals := 21 }) G [(cNw, .long)] [.ref aM] [(aM, .inr (8, [.ref aNw, .ref rM_kept, .ref rM_isKept, .ref rM_refused, .int M_at, .int M_fault, .ref rM_values, .int M_valueMany, .ref rM_signs, .int M_signMany, .long M_tells, .int M_way, .int M_wish, .long M_moreTick, .long M_moreForce, .int M_runTurns, .long M_runFirst, .long M_runLast, .ref rM_was, .long M_peak, .long M_beside, .int M_besideAt])), (aNw, .inl (cNw, 139, .inr (.inl fNw)))] (fun (r : Int64) (_ : Unit) => r = fX8_lengthNow fNw) (fun (_ : Unit) => [(aM, .inr (8, [.ref aNw, .ref rM_kept, .ref rM_isKept, .ref rM_refused, .int M_at, .int M_fault, .ref rM_values, .int M_valueMany, .ref rM_signs, .int M_signMany, .long M_tells, .int M_way, .int M_wish, .long M_moreTick, .long M_moreForce, .int M_runTurns, .long M_runFirst, .long M_runLast, .ref rM_was, .long M_peak, .long M_beside, .int M_besideAt])), (aNw, .inl (cNw, 139, .inr (.inl fNw)))]) := by
  intro sz
  refine Met.ofW (cc := cX8_lengthNow) (maxL := 1) (ret := (some .long)) (by decide) rfl ?_
  intro p e s m args below meth c s₁ B hml hv
  obtain ⟨rfl, hv⟩ := hv
  obtain ⟨rfl, hK, hq, hA⟩ := kk_begin hv
  have hx := B.exec
  have hb := B.bytes
  have hr := B.returns
  have hts := atoms_spec (ws := (Cond.code yX8_lengthNow cX8_lengthNow 1 (some .long) :: wsL_law)) B.pre
  have hown : s.vm.findClass RX8 = some m.cls := findClass_of_methodNamed B.named
  have hlocks := B.notSynchronized
  have hsb : ∀ w ∈ wsL_law, w ∈ (Cond.code yX8_lengthNow cX8_lengthNow 1 (some .long) :: wsL_law) := fun _ h => List.mem_cons_of_mem _ h
  generalize va_A [(aM, .inr (8, [.ref aNw, .ref rM_kept, .ref rM_isKept, .ref rM_refused, .int M_at, .int M_fault, .ref rM_values, .int M_valueMany, .ref rM_signs, .int M_signMany, .long M_tells, .int M_way, .int M_wish, .long M_moreTick, .long M_moreForce, .int M_runTurns, .long M_runFirst, .long M_runLast, .ref rM_was, .long M_peak, .long M_beside, .int M_besideAt])), (aNw, .inl (cNw, 139, .inr (.inl fNw)))] s.heap.size = A at hq hA ⊢
  have iX8 : ∀ w ∈ u_ws RX8 TX8 22, w ∈ (Cond.code yX8_lengthNow cX8_lengthNow 1 (some .long) :: wsL_law) := fun w h => hsb w (bin_X8 w h)
  have lk0_ := hts _ (hsb _ wd_117)
  have hl := lv_entry ([.ref aM]) (n := 1) (Nat.le_of_ble_eq_true rfl)
  rw [lg_entry_eq]
  generalize (lg_sl ([.ref aM]) ++ List.replicate (1 - (lg_sl ([.ref aM])).length) Slot.unset).toArray = ls at hl ⊢
  have hl : lv_has ls 1 [(0, .ref aM)] := hl
  refine lv_aload_n hx hb dX8_lengthNow_0 rfl (lv_at hl 0 rfl) ?_
  refine lv_iconst (v := 0) hx hb dX8_lengthNow_1 (by decide) ?_
  refine kk_Vl (As := [.int 0]) (rest := []) (wr := []) ⟨hx, hb, hml, hown, hts⟩ (c_X8_of l G aM aNw rM_kept rM_isKept rM_refused rM_values rM_signs rM_was cNw 0 M_at M_fault M_valueMany M_signMany M_tells M_way M_wish M_moreTick M_moreForce M_runTurns M_runFirst M_runLast M_peak M_beside M_besideAt fNw (by decide) (by decide)) (kk_cwV 1 hts hsb wd_163 wd_164 wd_165 wd_5 wd_166 rfl rfl hd_X8_of ⟨Nat.le_of_ble_eq_true rfl, Nat.le_of_ble_eq_true rfl⟩) hA hK hq [0, 1] [] [0] rfl rfl rfl (by decide) (by decide) (by decide) 0 8 rfl rfl rfl rfl hl.1 rfl (Nat.le_of_ble_eq_true rfl) dX8_lengthNow_2 ⟨Nat.zero_le _, Nat.zero_le _⟩ (fun r_2 u_1 H locs h_3 hq => ?_)
  have er_2 := h_3
  have hq : kAt G A s [(aM, .inr (8, [.ref aNw, .ref rM_kept, .ref rM_isKept, .ref rM_refused, .int M_at, .int M_fault, .ref rM_values, .int M_valueMany, .ref rM_signs, .int M_signMany, .long M_tells, .int M_way, .int M_wish, .long M_moreTick, .long M_moreForce, .int M_runTurns, .long M_runFirst, .long M_runLast, .ref rM_was, .long M_peak, .long M_beside, .int M_besideAt])), (aNw, .inl (cNw, 139, .inr (.inl fNw)))] H locs := hq
  refine lv_aload_n hx hb dX8_lengthNow_5 rfl (lv_at hl 0 rfl) ?_
  refine lv_iconst (v := 3) hx hb dX8_lengthNow_6 (by decide) ?_
  refine kk_Vl (As := [.int 3]) (rest := [.long r_2]) (wr := []) ⟨hx, hb, hml, hown, hts⟩ (c_X8_of l G aM aNw rM_kept rM_isKept rM_refused rM_values rM_signs rM_was cNw 3 M_at M_fault M_valueMany M_signMany M_tells M_way M_wish M_moreTick M_moreForce M_runTurns M_runFirst M_runLast M_peak M_beside M_besideAt fNw (by decide) (by decide)) (kk_cwV 1 hts hsb wd_163 wd_164 wd_165 wd_5 wd_166 rfl rfl hd_X8_of ⟨Nat.le_of_ble_eq_true rfl, Nat.le_of_ble_eq_true rfl⟩) hA hK hq [0, 1] [] [0] rfl rfl rfl (by decide) (by decide) (by decide) 0 8 rfl rfl rfl rfl hl.1 rfl (Nat.le_of_ble_eq_true rfl) dX8_lengthNow_7 ⟨Nat.zero_le _, Nat.zero_le _⟩ (fun r_5 u_4 H locs h_6 hq => ?_)
  have er_5 := h_6
  have hq : kAt G A s [(aM, .inr (8, [.ref aNw, .ref rM_kept, .ref rM_isKept, .ref rM_refused, .int M_at, .int M_fault, .ref rM_values, .int M_valueMany, .ref rM_signs, .int M_signMany, .long M_tells, .int M_way, .int M_wish, .long M_moreTick, .long M_moreForce, .int M_runTurns, .long M_runFirst, .long M_runLast, .ref rM_was, .long M_peak, .long M_beside, .int M_besideAt])), (aNw, .inl (cNw, 139, .inr (.inl fNw)))] H locs := hq
  refine lv_aload_n hx hb dX8_lengthNow_10 rfl (lv_at hl 0 rfl) ?_
  refine kk_get (ci := 8) (v := .ref aNw) (C := RX8) (T := TX8) (N := 22) hx hb hts iX8 hown hK hq 0 rfl rfl 0 (by decide) lk0_ rfl dX8_lengthNow_11 ?_
  refine lv_iconst (v := 2) hx hb dX8_lengthNow_14 (by decide) ?_
  refine kk_lald hx hb hK hq 1 0 rfl rfl 2 rfl (by decide) (by decide) dX8_lengthNow_15 ?_
  refine lv_lmul hx hb dX8_lengthNow_16 ?_
  refine lv_lsub hx hb dX8_lengthNow_17 ?_
  have hf : (r_2 - (r_5 * (fNw 2)) : Int64) = fX8_lengthNow fNw := by
    exact ((congrArg (fun (r_2 : Int64) => ((let r_5 : Int64 := fX8_of 3 fNw
  r_2 - (r_5 * (fNw 2))) : Int64)) er_2.symm).trans ((congrArg (fun (r_5 : Int64) => ((r_2 - (r_5 * (fNw 2))) : Int64)) er_5.symm))).symm
  exact kk_el hx hb hr hlocks hK hq [0, 1] () rfl (by decide) dX8_lengthNow_18 hf
theorem hd_X8_size : yX8_size.cls ≠ "java/lang/invoke/MethodHandle" ∧ yX8_size.cls ≠ "java/lang/invoke/VarHandle" ∧ (parseMethodDescriptor yX8_size.desc).map (fun d => d.parameters.length) = some 1 := by decide +kernel
def fX8_turned (M_runTurns : Int32) (M_runFirst : Int64) (fNw : Nat → Int64) : Int32 × Int64 × Int64 × (Nat → Int64) :=
  let r_2 : Int64 := fX8_size (fNw 0)
  let z0_5 : Int64 := if M_runTurns = 0 then (vp_updL (vp_updL (vp_updL fNw 4 r_2) (13 + (fNw 6).toInt.toNat % 40) ((vp_updL fNw 4 r_2) 4)) 6 (((vp_updL (vp_updL fNw 4 r_2) (13 + (fNw 6).toInt.toNat % 40) ((vp_updL fNw 4 r_2) 4)) 6) + 1)) 4 else M_runFirst
  (M_runTurns + 1, z0_5, (vp_updL (vp_updL (vp_updL fNw 4 r_2) (13 + (fNw 6).toInt.toNat % 40) ((vp_updL fNw 4 r_2) 4)) 6 (((vp_updL (vp_updL fNw 4 r_2) (13 + (fNw 6).toInt.toNat % 40) ((vp_updL fNw 4 r_2) 4)) 6) + 1)) 4, vp_updL (vp_updL (vp_updL fNw 4 r_2) (13 + (fNw 6).toInt.toNat % 40) ((vp_updL fNw 4 r_2) 4)) 6 (((vp_updL (vp_updL fNw 4 r_2) (13 + (fNw 6).toInt.toNat % 40) ((vp_updL fNw 4 r_2) 4)) 6) + 1))

set_option maxHeartbeats 4000000 in
set_option maxRecDepth 100000 in
theorem c_X8_turned (l : Launch) (G : va_G) (aM aNw rM_kept rM_isKept rM_refused rM_values rM_signs rM_was : Nat) (cNw : ClassId) (M_at : Int32) (M_fault : Int32) (M_valueMany : Int32) (M_signMany : Int32) (M_tells : Int64) (M_way : Int32) (M_wish : Int32) (M_moreTick : Int64) (M_moreForce : Int64) (M_runTurns : Int32) (M_runFirst : Int64) (M_runLast : Int64) (M_peak : Int64) (M_beside : Int64) (M_besideAt : Int32) (fNw : Nat → Int64) (t6 : 0 ≤ (fNw 6).toInt) : kCv l yX8_turned (Cond.code yX8_turned cX8_turned 1 none :: wsL_law) ({ frames := 1, cells := 0, slots := 0, locals := 21 }) G [(cNw, .long)] [.ref aM] [(aM, .inr (8, [.ref aNw, .ref rM_kept, .ref rM_isKept, .ref rM_refused, .int M_at, .int M_fault, .ref rM_values, .int M_valueMany, .ref rM_signs, .int M_signMany, .long M_tells, .int M_way, .int M_wish, .long M_moreTick, .long M_moreForce, .int M_runTurns, .long M_runFirst, .long M_runLast, .ref rM_was, .long M_peak, .long M_beside, .int M_besideAt])), (aNw, .inl (cNw, 139, .inr (.inl fNw)))] (fun (u : Int32 × Int64 × Int64 × (Nat → Int64)) => u = fX8_turned M_runTurns M_runFirst fNw) (fun (u : Int32 × Int64 × Int64 × (Nat → Int64)) => [(aM, .inr (8, [.ref aNw, .ref rM_kept, .ref rM_isKept, .ref rM_refused, .int M_at, .int M_fault, .ref rM_values, .int M_valueMany, .ref rM_signs, .int M_signMany, .long M_tells, .int M_way, .int M_wish, .long M_moreTick, .long M_moreForce, .int u.1, .long u.2.1, .long u.2.2.1, .ref rM_was, .long M_peak, .long M_beside, .int M_besideAt])), (aNw, .inl (cNw, 139, .inr (.inl u.2.2.2)))]) := by
  intro sz
  refine Met.ofW (cc := cX8_turned) (maxL := 1) (ret := none) (by decide) rfl ?_
  intro p e s m args below meth c s₁ B hml hv
  obtain ⟨rfl, hv⟩ := hv
  obtain ⟨rfl, hK, hq, hA⟩ := kk_begin hv
  have hx := B.exec
  have hb := B.bytes
  have hr := B.returns
  have hts := atoms_spec (ws := (Cond.code yX8_turned cX8_turned 1 none :: wsL_law)) B.pre
  have hown : s.vm.findClass RX8 = some m.cls := findClass_of_methodNamed B.named
  have hlocks := B.notSynchronized
  have hsb : ∀ w ∈ wsL_law, w ∈ (Cond.code yX8_turned cX8_turned 1 none :: wsL_law) := fun _ h => List.mem_cons_of_mem _ h
  generalize va_A [(aM, .inr (8, [.ref aNw, .ref rM_kept, .ref rM_isKept, .ref rM_refused, .int M_at, .int M_fault, .ref rM_values, .int M_valueMany, .ref rM_signs, .int M_signMany, .long M_tells, .int M_way, .int M_wish, .long M_moreTick, .long M_moreForce, .int M_runTurns, .long M_runFirst, .long M_runLast, .ref rM_was, .long M_peak, .long M_beside, .int M_besideAt])), (aNw, .inl (cNw, 139, .inr (.inl fNw)))] s.heap.size = A at hq hA ⊢
  have iX8 : ∀ w ∈ u_ws RX8 TX8 22, w ∈ (Cond.code yX8_turned cX8_turned 1 none :: wsL_law) := fun w h => hsb w (bin_X8 w h)
  have lk0_ := hts _ (hsb _ wd_117)
  have lk1_ := hts _ (hsb _ wd_564)
  have lk2_ := hts _ (hsb _ wd_565)
  have lk3_ := hts _ (hsb _ wd_566)
  have lk4_ := hts _ (hsb _ wd_567)
  have hl := lv_entry ([.ref aM]) (n := 1) (Nat.le_of_ble_eq_true rfl)
  rw [lg_entry_eq]
  generalize (lg_sl ([.ref aM]) ++ List.replicate (1 - (lg_sl ([.ref aM])).length) Slot.unset).toArray = ls at hl ⊢
  have hl : lv_has ls 1 [(0, .ref aM)] := hl
  refine lv_aload_n hx hb dX8_turned_0 rfl (lv_at hl 0 rfl) ?_
  refine kk_get (ci := 8) (v := .ref aNw) (C := RX8) (T := TX8) (N := 22) hx hb hts iX8 hown hK hq 0 rfl rfl 0 (by decide) lk0_ rfl dX8_turned_1 ?_
  refine lv_iconst (v := 4) hx hb dX8_turned_4 (by decide) ?_
  refine lv_aload_n hx hb dX8_turned_5 rfl (lv_at hl 0 rfl) ?_
  refine kk_get (ci := 8) (v := .ref aNw) (C := RX8) (T := TX8) (N := 22) hx hb hts iX8 hown hK hq 0 rfl rfl 0 (by decide) lk0_ rfl dX8_turned_6 ?_
  refine lv_iconst (v := 0) hx hb dX8_turned_9 (by decide) ?_
  refine kk_lald hx hb hK hq 1 0 rfl rfl 0 rfl (by decide) (by decide) dX8_turned_10 ?_
  refine kk_Sl (As := [.long (fNw 0)]) (rest := [.int 4, .ref aNw]) (wr := [(aM, .inr (8, [.ref aNw, .ref rM_kept, .ref rM_isKept, .ref rM_refused, .int M_at, .int M_fault, .ref rM_values, .int M_valueMany, .ref rM_signs, .int M_signMany, .long M_tells, .int M_way, .int M_wish, .long M_moreTick, .long M_moreForce, .int M_runTurns, .long M_runFirst, .long M_runLast, .ref rM_was, .long M_peak, .long M_beside, .int M_besideAt])), (aNw, .inl (cNw, 139, .inr (.inl fNw)))]) ⟨hx, hb, hml, hown, hts⟩ (c_X8_size l G (fNw 0)) (kk_cwS 1 hts hsb wd_401 wd_402 wd_5 wd_403 rfl rfl hd_X8_size ⟨Nat.le_of_ble_eq_true rfl, Nat.le_of_ble_eq_true rfl⟩) hA hK hq [] [0, 1] [] rfl rfl rfl (by decide) (by decide) (by decide) rfl hl.1 rfl (Nat.le_of_ble_eq_true rfl) dX8_turned_11 ⟨Nat.zero_le _, Nat.zero_le _⟩ (fun r_2 u_1 H locs h_3 hq => ?_)
  have er_2 := h_3
  have hq : kAt G A s [(aM, .inr (8, [.ref aNw, .ref rM_kept, .ref rM_isKept, .ref rM_refused, .int M_at, .int M_fault, .ref rM_values, .int M_valueMany, .ref rM_signs, .int M_signMany, .long M_tells, .int M_way, .int M_wish, .long M_moreTick, .long M_moreForce, .int M_runTurns, .long M_runFirst, .long M_runLast, .ref rM_was, .long M_peak, .long M_beside, .int M_besideAt])), (aNw, .inl (cNw, 139, .inr (.inl fNw)))] H locs := hq
  refine kk_last (ws' := [(aM, .inr (8, [.ref aNw, .ref rM_kept, .ref rM_isKept, .ref rM_refused, .int M_at, .int M_fault, .ref rM_values, .int M_valueMany, .ref rM_signs, .int M_signMany, .long M_tells, .int M_way, .int M_wish, .long M_moreTick, .long M_moreForce, .int M_runTurns, .long M_runFirst, .long M_runLast, .ref rM_was, .long M_peak, .long M_beside, .int M_besideAt])), (aNw, .inl (cNw, 139, .inr (.inl (vp_updL fNw 4 r_2))))]) hx hb hK hq 1 0 rfl rfl 4 rfl (by decide) (by decide) dX8_turned_14 rfl (fun H locs hq => ?_)
  refine lv_aload_n hx hb dX8_turned_15 rfl (lv_at hl 0 rfl) ?_
  refine kk_get (ci := 8) (v := .ref aNw) (C := RX8) (T := TX8) (N := 22) hx hb hts iX8 hown hK hq 0 rfl rfl 0 (by decide) lk0_ rfl dX8_turned_16 ?_
  refine lv_bipush (v := 13) hx hb dX8_turned_19 (by decide) ?_
  refine lv_aload_n hx hb dX8_turned_21 rfl (lv_at hl 0 rfl) ?_
  refine kk_get (ci := 8) (v := .ref aNw) (C := RX8) (T := TX8) (N := 22) hx hb hts iX8 hown hK hq 0 rfl rfl 0 (by decide) lk0_ rfl dX8_turned_22 ?_
  refine lv_bipush (v := 6) hx hb dX8_turned_25 (by decide) ?_
  refine kk_lald hx hb hK hq 1 0 rfl rfl 6 rfl (by decide) (by decide) dX8_turned_27 ?_
  refine lv_ldc2 hx hb hown lk1_ dX8_turned_28 ?_
  refine lv_lrem hx hb dX8_turned_31 (by decide) ?_
  refine lv_l2i hx hb dX8_turned_32 rfl ?_
  refine lv_iadd hx hb dX8_turned_33 ?_
  refine lv_aload_n hx hb dX8_turned_34 rfl (lv_at hl 0 rfl) ?_
  refine kk_get (ci := 8) (v := .ref aNw) (C := RX8) (T := TX8) (N := 22) hx hb hts iX8 hown hK hq 0 rfl rfl 0 (by decide) lk0_ rfl dX8_turned_35 ?_
  refine lv_iconst (v := 4) hx hb dX8_turned_38 (by decide) ?_
  refine kk_lald hx hb hK hq 1 0 rfl rfl 4 rfl (by decide) (by decide) dX8_turned_39 ?_
  refine kk_last (ws' := [(aM, .inr (8, [.ref aNw, .ref rM_kept, .ref rM_isKept, .ref rM_refused, .int M_at, .int M_fault, .ref rM_values, .int M_valueMany, .ref rM_signs, .int M_signMany, .long M_tells, .int M_way, .int M_wish, .long M_moreTick, .long M_moreForce, .int M_runTurns, .long M_runFirst, .long M_runLast, .ref rM_was, .long M_peak, .long M_beside, .int M_besideAt])), (aNw, .inl (cNw, 139, .inr (.inl (vp_updL (vp_updL fNw 4 r_2) (13 + (fNw 6).toInt.toNat % 40) ((vp_updL fNw 4 r_2) 4)))))]) hx hb hK hq 1 0 rfl rfl (13 + (fNw 6).toInt.toNat % 40) (ix_40 t6).1 (ix_40 t6).2 (by decide) dX8_turned_40 rfl (fun H locs hq => ?_)
  refine lv_aload_n hx hb dX8_turned_41 rfl (lv_at hl 0 rfl) ?_
  refine kk_get (ci := 8) (v := .ref aNw) (C := RX8) (T := TX8) (N := 22) hx hb hts iX8 hown hK hq 0 rfl rfl 0 (by decide) lk0_ rfl dX8_turned_42 ?_
  refine lv_bipush (v := 6) hx hb dX8_turned_45 (by decide) ?_
  refine lv_dup2_11 hx hb dX8_turned_47 rfl rfl ?_
  refine kk_lald hx hb hK hq 1 0 rfl rfl 6 rfl (by decide) (by decide) dX8_turned_48 ?_
  refine lv_lconst (v := 1) hx hb dX8_turned_49 (by decide) ?_
  refine lv_ladd hx hb dX8_turned_50 ?_
  refine kk_last (ws' := [(aM, .inr (8, [.ref aNw, .ref rM_kept, .ref rM_isKept, .ref rM_refused, .int M_at, .int M_fault, .ref rM_values, .int M_valueMany, .ref rM_signs, .int M_signMany, .long M_tells, .int M_way, .int M_wish, .long M_moreTick, .long M_moreForce, .int M_runTurns, .long M_runFirst, .long M_runLast, .ref rM_was, .long M_peak, .long M_beside, .int M_besideAt])), (aNw, .inl (cNw, 139, .inr (.inl (vp_updL (vp_updL (vp_updL fNw 4 r_2) (13 + (fNw 6).toInt.toNat % 40) ((vp_updL fNw 4 r_2) 4)) 6 (((vp_updL (vp_updL fNw 4 r_2) (13 + (fNw 6).toInt.toNat % 40) ((vp_updL fNw 4 r_2) 4)) 6) + 1)))))]) hx hb hK hq 1 0 rfl rfl 6 rfl (by decide) (by decide) dX8_turned_51 rfl (fun H locs hq => ?_)
  refine lv_aload_n hx hb dX8_turned_52 rfl (lv_at hl 0 rfl) ?_
  refine lv_aload_n hx hb dX8_turned_53 rfl (lv_at hl 0 rfl) ?_
  refine kk_get (ci := 8) (v := .int M_runTurns) (C := RX8) (T := TX8) (N := 22) hx hb hts iX8 hown hK hq 0 rfl rfl 15 (by decide) lk2_ rfl dX8_turned_54 ?_
  refine kk_join1 (fun (z0_5 : Int64) (H : Heap) (locs : List Loc) (ls : Array Slot) => z0_5 = (if M_runTurns = 0 then (vp_updL (vp_updL (vp_updL fNw 4 r_2) (13 + (fNw 6).toInt.toNat % 40) ((vp_updL fNw 4 r_2) 4)) 6 (((vp_updL (vp_updL fNw 4 r_2) (13 + (fNw 6).toInt.toNat % 40) ((vp_updL fNw 4 r_2) 4)) 6) + 1)) 4 else M_runFirst) ∧ lv_has ls 1 [(0, .ref aM)] ∧ kAt G A s [(aM, .inr (8, [.ref aNw, .ref rM_kept, .ref rM_isKept, .ref rM_refused, .int M_at, .int M_fault, .ref rM_values, .int M_valueMany, .ref rM_signs, .int M_signMany, .long M_tells, .int M_way, .int M_wish, .long M_moreTick, .long M_moreForce, .int M_runTurns, .long M_runFirst, .long M_runLast, .ref rM_was, .long M_peak, .long M_beside, .int M_besideAt])), (aNw, .inl (cNw, 139, .inr (.inl (vp_updL (vp_updL (vp_updL fNw 4 r_2) (13 + (fNw 6).toInt.toNat % 40) ((vp_updL fNw 4 r_2) 4)) 6 (((vp_updL (vp_updL fNw 4 r_2) (13 + (fNw 6).toInt.toNat % 40) ((vp_updL fNw 4 r_2) 4)) 6) + 1)))))] H locs) 73 (fun z0_5 => [.long z0_5, .ref aM]) (fun z0_5 H locs ls hv => ?_) (fun J_6 => ?_)
  · skip
    obtain ⟨ez0_5, hl, hq⟩ := hv
    refine kk_put (ws' := [(aM, .inr (8, [.ref aNw, .ref rM_kept, .ref rM_isKept, .ref rM_refused, .int M_at, .int M_fault, .ref rM_values, .int M_valueMany, .ref rM_signs, .int M_signMany, .long M_tells, .int M_way, .int M_wish, .long M_moreTick, .long M_moreForce, .int M_runTurns, .long z0_5, .long M_runLast, .ref rM_was, .long M_peak, .long M_beside, .int M_besideAt])), (aNw, .inl (cNw, 139, .inr (.inl (vp_updL (vp_updL (vp_updL fNw 4 r_2) (13 + (fNw 6).toInt.toNat % 40) ((vp_updL fNw 4 r_2) 4)) 6 (((vp_updL (vp_updL fNw 4 r_2) (13 + (fNw 6).toInt.toNat % 40) ((vp_updL fNw 4 r_2) 4)) 6) + 1)))))]) (ci := 8) (v := .long z0_5) (C := RX8) (T := TX8) (N := 22) hx hb hts iX8 tyX8_ok nmX8 hown hK hq 0 rfl rfl 16 (by decide) lk3_ rfl rfl rfl (Nat.le_of_ble_eq_true rfl) dX8_turned_73 rfl (fun H locs hq => ?_)
    refine lv_aload_n hx hb dX8_turned_76 rfl (lv_at hl 0 rfl) ?_
    refine lv_aload_n hx hb dX8_turned_77 rfl (lv_at hl 0 rfl) ?_
    refine kk_get (ci := 8) (v := .ref aNw) (C := RX8) (T := TX8) (N := 22) hx hb hts iX8 hown hK hq 0 rfl rfl 0 (by decide) lk0_ rfl dX8_turned_78 ?_
    refine lv_iconst (v := 4) hx hb dX8_turned_81 (by decide) ?_
    refine kk_lald hx hb hK hq 1 0 rfl rfl 4 rfl (by decide) (by decide) dX8_turned_82 ?_
    refine kk_put (ws' := [(aM, .inr (8, [.ref aNw, .ref rM_kept, .ref rM_isKept, .ref rM_refused, .int M_at, .int M_fault, .ref rM_values, .int M_valueMany, .ref rM_signs, .int M_signMany, .long M_tells, .int M_way, .int M_wish, .long M_moreTick, .long M_moreForce, .int M_runTurns, .long z0_5, .long ((vp_updL (vp_updL (vp_updL fNw 4 r_2) (13 + (fNw 6).toInt.toNat % 40) ((vp_updL fNw 4 r_2) 4)) 6 (((vp_updL (vp_updL fNw 4 r_2) (13 + (fNw 6).toInt.toNat % 40) ((vp_updL fNw 4 r_2) 4)) 6) + 1)) 4), .ref rM_was, .long M_peak, .long M_beside, .int M_besideAt])), (aNw, .inl (cNw, 139, .inr (.inl (vp_updL (vp_updL (vp_updL fNw 4 r_2) (13 + (fNw 6).toInt.toNat % 40) ((vp_updL fNw 4 r_2) 4)) 6 (((vp_updL (vp_updL fNw 4 r_2) (13 + (fNw 6).toInt.toNat % 40) ((vp_updL fNw 4 r_2) 4)) 6) + 1)))))]) (ci := 8) (v := .long ((vp_updL (vp_updL (vp_updL fNw 4 r_2) (13 + (fNw 6).toInt.toNat % 40) ((vp_updL fNw 4 r_2) 4)) 6 (((vp_updL (vp_updL fNw 4 r_2) (13 + (fNw 6).toInt.toNat % 40) ((vp_updL fNw 4 r_2) 4)) 6) + 1)) 4)) (C := RX8) (T := TX8) (N := 22) hx hb hts iX8 tyX8_ok nmX8 hown hK hq 0 rfl rfl 17 (by decide) lk4_ rfl rfl rfl (Nat.le_of_ble_eq_true rfl) dX8_turned_83 rfl (fun H locs hq => ?_)
    refine lv_aload_n hx hb dX8_turned_86 rfl (lv_at hl 0 rfl) ?_
    refine lv_dup hx hb dX8_turned_87 rfl ?_
    refine kk_get (ci := 8) (v := .int M_runTurns) (C := RX8) (T := TX8) (N := 22) hx hb hts iX8 hown hK hq 0 rfl rfl 15 (by decide) lk2_ rfl dX8_turned_88 ?_
    refine lv_iconst (v := 1) hx hb dX8_turned_91 (by decide) ?_
    refine lv_iadd hx hb dX8_turned_92 ?_
    refine kk_put (ws' := [(aM, .inr (8, [.ref aNw, .ref rM_kept, .ref rM_isKept, .ref rM_refused, .int M_at, .int M_fault, .ref rM_values, .int M_valueMany, .ref rM_signs, .int M_signMany, .long M_tells, .int M_way, .int M_wish, .long M_moreTick, .long M_moreForce, .int (M_runTurns + 1), .long z0_5, .long ((vp_updL (vp_updL (vp_updL fNw 4 r_2) (13 + (fNw 6).toInt.toNat % 40) ((vp_updL fNw 4 r_2) 4)) 6 (((vp_updL (vp_updL fNw 4 r_2) (13 + (fNw 6).toInt.toNat % 40) ((vp_updL fNw 4 r_2) 4)) 6) + 1)) 4), .ref rM_was, .long M_peak, .long M_beside, .int M_besideAt])), (aNw, .inl (cNw, 139, .inr (.inl (vp_updL (vp_updL (vp_updL fNw 4 r_2) (13 + (fNw 6).toInt.toNat % 40) ((vp_updL fNw 4 r_2) 4)) 6 (((vp_updL (vp_updL fNw 4 r_2) (13 + (fNw 6).toInt.toNat % 40) ((vp_updL fNw 4 r_2) 4)) 6) + 1)))))]) (ci := 8) (v := .int (M_runTurns + 1)) (C := RX8) (T := TX8) (N := 22) hx hb hts iX8 tyX8_ok nmX8 hown hK hq 0 rfl rfl 15 (by decide) lk2_ rfl rfl rfl (Nat.le_of_ble_eq_true rfl) dX8_turned_93 rfl (fun H locs hq => ?_)
    have hf : ((M_runTurns + 1, z0_5, (vp_updL (vp_updL (vp_updL fNw 4 r_2) (13 + (fNw 6).toInt.toNat % 40) ((vp_updL fNw 4 r_2) 4)) 6 (((vp_updL (vp_updL fNw 4 r_2) (13 + (fNw 6).toInt.toNat % 40) ((vp_updL fNw 4 r_2) 4)) 6) + 1)) 4, vp_updL (vp_updL (vp_updL fNw 4 r_2) (13 + (fNw 6).toInt.toNat % 40) ((vp_updL fNw 4 r_2) 4)) 6 (((vp_updL (vp_updL fNw 4 r_2) (13 + (fNw 6).toInt.toNat % 40) ((vp_updL fNw 4 r_2) 4)) 6) + 1)) : Int32 × Int64 × Int64 × (Nat → Int64)) = fX8_turned M_runTurns M_runFirst fNw := by
      exact ((congrArg (fun (r_2 : Int64) => ((let z0_5 : Int64 := if M_runTurns = 0 then (vp_updL (vp_updL (vp_updL fNw 4 r_2) (13 + (fNw 6).toInt.toNat % 40) ((vp_updL fNw 4 r_2) 4)) 6 (((vp_updL (vp_updL fNw 4 r_2) (13 + (fNw 6).toInt.toNat % 40) ((vp_updL fNw 4 r_2) 4)) 6) + 1)) 4 else M_runFirst
  (M_runTurns + 1, z0_5, (vp_updL (vp_updL (vp_updL fNw 4 r_2) (13 + (fNw 6).toInt.toNat % 40) ((vp_updL fNw 4 r_2) 4)) 6 (((vp_updL (vp_updL fNw 4 r_2) (13 + (fNw 6).toInt.toNat % 40) ((vp_updL fNw 4 r_2) 4)) 6) + 1)) 4, vp_updL (vp_updL (vp_updL fNw 4 r_2) (13 + (fNw 6).toInt.toNat % 40) ((vp_updL fNw 4 r_2) 4)) 6 (((vp_updL (vp_updL fNw 4 r_2) (13 + (fNw 6).toInt.toNat % 40) ((vp_updL fNw 4 r_2) 4)) 6) + 1))) : Int32 × Int64 × Int64 × (Nat → Int64))) er_2.symm).trans ((congrArg (fun (z0_5 : Int64) => (((M_runTurns + 1, z0_5, (vp_updL (vp_updL (vp_updL fNw 4 r_2) (13 + (fNw 6).toInt.toNat % 40) ((vp_updL fNw 4 r_2) 4)) 6 (((vp_updL (vp_updL fNw 4 r_2) (13 + (fNw 6).toInt.toNat % 40) ((vp_updL fNw 4 r_2) 4)) 6) + 1)) 4, vp_updL (vp_updL (vp_updL fNw 4 r_2) (13 + (fNw 6).toInt.toNat % 40) ((vp_updL fNw 4 r_2) 4)) 6 (((vp_updL (vp_updL fNw 4 r_2) (13 + (fNw 6).toInt.toNat % 40) ((vp_updL fNw 4 r_2) 4)) 6) + 1))) : Int32 × Int64 × Int64 × (Nat → Int64))) ez0_5.symm))).symm
    exact kk_ev hx hb hr hlocks hK hq [0, 1] (M_runTurns + 1, z0_5, (vp_updL (vp_updL (vp_updL fNw 4 r_2) (13 + (fNw 6).toInt.toNat % 40) ((vp_updL fNw 4 r_2) 4)) 6 (((vp_updL (vp_updL fNw 4 r_2) (13 + (fNw 6).toInt.toNat % 40) ((vp_updL fNw 4 r_2) 4)) 6) + 1)) 4, vp_updL (vp_updL (vp_updL fNw 4 r_2) (13 + (fNw 6).toInt.toNat % 40) ((vp_updL fNw 4 r_2) 4)) 6 (((vp_updL (vp_updL fNw 4 r_2) (13 + (fNw 6).toInt.toNat % 40) ((vp_updL fNw 4 r_2) 4)) 6) + 1)) rfl (by decide) dX8_turned_96 hf
  · skip
    refine lv_if_ne (tgt := 69) hx hb dX8_turned_57 (by decide) (fun c_4 => ?_) (fun c_4 => ?_)
    · skip
      refine lv_aload_n hx hb dX8_turned_69 rfl (lv_at hl 0 rfl) ?_
      refine kk_get (ci := 8) (v := .long M_runFirst) (C := RX8) (T := TX8) (N := 22) hx hb hts iX8 hown hK hq 0 rfl rfl 16 (by decide) lk3_ rfl dX8_turned_70 ?_
      exact J_6 M_runFirst _ _ _ ⟨(if_neg c_4).symm, lv_sub hl [0] rfl, hq⟩
    · skip
      refine lv_aload_n hx hb dX8_turned_60 rfl (lv_at hl 0 rfl) ?_
      refine kk_get (ci := 8) (v := .ref aNw) (C := RX8) (T := TX8) (N := 22) hx hb hts iX8 hown hK hq 0 rfl rfl 0 (by decide) lk0_ rfl dX8_turned_61 ?_
      refine lv_iconst (v := 4) hx hb dX8_turned_64 (by decide) ?_
      refine kk_lald hx hb hK hq 1 0 rfl rfl 4 rfl (by decide) (by decide) dX8_turned_65 ?_
      refine lv_goto (tgt := 73) hx hb dX8_turned_66 (by decide) ?_
      exact J_6 ((vp_updL (vp_updL (vp_updL fNw 4 r_2) (13 + (fNw 6).toInt.toNat % 40) ((vp_updL fNw 4 r_2) 4)) 6 (((vp_updL (vp_updL fNw 4 r_2) (13 + (fNw 6).toInt.toNat % 40) ((vp_updL fNw 4 r_2) 4)) 6) + 1)) 4) _ _ _ ⟨(if_pos c_4).symm, lv_sub hl [0] rfl, hq⟩
def fX8_startRun : Int32 × Int64 × Int64 × Int64 × Int64 × Int32 :=
  (0, 0, 0, 0, 0, 0)

set_option maxHeartbeats 4000000 in
set_option maxRecDepth 100000 in
theorem c_X8_startRun (l : Launch) (G : va_G) (aM rM_now rM_kept rM_isKept rM_refused rM_values rM_signs rM_was : Nat) (M_at : Int32) (M_fault : Int32) (M_valueMany : Int32) (M_signMany : Int32) (M_tells : Int64) (M_way : Int32) (M_wish : Int32) (M_moreTick : Int64) (M_moreForce : Int64) (M_runTurns : Int32) (M_runFirst : Int64) (M_runLast : Int64) (M_peak : Int64) (M_beside : Int64) (M_besideAt : Int32) : kCv l yX8_startRun (Cond.code yX8_startRun cX8_startRun 1 none :: wsL_law) ({ frames := 0, cells := 0, slots := 0, locals := 0 }) G [] [.ref aM] [(aM, .inr (8, [.ref rM_now, .ref rM_kept, .ref rM_isKept, .ref rM_refused, .int M_at, .int M_fault, .ref rM_values, .int M_valueMany, .ref rM_signs, .int M_signMany, .long M_tells, .int M_way, .int M_wish, .long M_moreTick, .long M_moreForce, .int M_runTurns, .long M_runFirst, .long M_runLast, .ref rM_was, .long M_peak, .long M_beside, .int M_besideAt]))] (fun (u : Int32 × Int64 × Int64 × Int64 × Int64 × Int32) => u = fX8_startRun) (fun (u : Int32 × Int64 × Int64 × Int64 × Int64 × Int32) => [(aM, .inr (8, [.ref rM_now, .ref rM_kept, .ref rM_isKept, .ref rM_refused, .int M_at, .int M_fault, .ref rM_values, .int M_valueMany, .ref rM_signs, .int M_signMany, .long M_tells, .int M_way, .int M_wish, .long M_moreTick, .long M_moreForce, .int u.1, .long u.2.1, .long u.2.2.1, .ref rM_was, .long u.2.2.2.1, .long u.2.2.2.2.1, .int u.2.2.2.2.2]))]) := by
  intro sz
  refine Met.ofW (cc := cX8_startRun) (maxL := 1) (ret := none) (by decide) rfl ?_
  intro p e s m args below meth c s₁ B hml hv
  obtain ⟨rfl, hv⟩ := hv
  obtain ⟨rfl, hK, hq, hA⟩ := kk_begin hv
  have hx := B.exec
  have hb := B.bytes
  have hr := B.returns
  have hts := atoms_spec (ws := (Cond.code yX8_startRun cX8_startRun 1 none :: wsL_law)) B.pre
  have hown : s.vm.findClass RX8 = some m.cls := findClass_of_methodNamed B.named
  have hlocks := B.notSynchronized
  have hsb : ∀ w ∈ wsL_law, w ∈ (Cond.code yX8_startRun cX8_startRun 1 none :: wsL_law) := fun _ h => List.mem_cons_of_mem _ h
  generalize va_A [(aM, .inr (8, [.ref rM_now, .ref rM_kept, .ref rM_isKept, .ref rM_refused, .int M_at, .int M_fault, .ref rM_values, .int M_valueMany, .ref rM_signs, .int M_signMany, .long M_tells, .int M_way, .int M_wish, .long M_moreTick, .long M_moreForce, .int M_runTurns, .long M_runFirst, .long M_runLast, .ref rM_was, .long M_peak, .long M_beside, .int M_besideAt]))] s.heap.size = A at hq hA ⊢
  have iX8 : ∀ w ∈ u_ws RX8 TX8 22, w ∈ (Cond.code yX8_startRun cX8_startRun 1 none :: wsL_law) := fun w h => hsb w (bin_X8 w h)
  have lk0_ := hts _ (hsb _ wd_565)
  have lk1_ := hts _ (hsb _ wd_566)
  have lk2_ := hts _ (hsb _ wd_567)
  have lk3_ := hts _ (hsb _ wd_626)
  have lk4_ := hts _ (hsb _ wd_639)
  have lk5_ := hts _ (hsb _ wd_640)
  have hl := lv_entry ([.ref aM]) (n := 1) (Nat.le_of_ble_eq_true rfl)
  rw [lg_entry_eq]
  generalize (lg_sl ([.ref aM]) ++ List.replicate (1 - (lg_sl ([.ref aM])).length) Slot.unset).toArray = ls at hl ⊢
  have hl : lv_has ls 1 [(0, .ref aM)] := hl
  refine lv_aload_n hx hb dX8_startRun_0 rfl (lv_at hl 0 rfl) ?_
  refine lv_iconst (v := 0) hx hb dX8_startRun_1 (by decide) ?_
  refine kk_put (ws' := [(aM, .inr (8, [.ref rM_now, .ref rM_kept, .ref rM_isKept, .ref rM_refused, .int M_at, .int M_fault, .ref rM_values, .int M_valueMany, .ref rM_signs, .int M_signMany, .long M_tells, .int M_way, .int M_wish, .long M_moreTick, .long M_moreForce, .int 0, .long M_runFirst, .long M_runLast, .ref rM_was, .long M_peak, .long M_beside, .int M_besideAt]))]) (ci := 8) (v := .int 0) (C := RX8) (T := TX8) (N := 22) hx hb hts iX8 tyX8_ok nmX8 hown hK hq 0 rfl rfl 15 (by decide) lk0_ rfl rfl rfl (Nat.le_of_ble_eq_true rfl) dX8_startRun_2 rfl (fun H locs hq => ?_)
  refine lv_aload_n hx hb dX8_startRun_5 rfl (lv_at hl 0 rfl) ?_
  refine lv_lconst (v := 0) hx hb dX8_startRun_6 (by decide) ?_
  refine kk_put (ws' := [(aM, .inr (8, [.ref rM_now, .ref rM_kept, .ref rM_isKept, .ref rM_refused, .int M_at, .int M_fault, .ref rM_values, .int M_valueMany, .ref rM_signs, .int M_signMany, .long M_tells, .int M_way, .int M_wish, .long M_moreTick, .long M_moreForce, .int 0, .long 0, .long M_runLast, .ref rM_was, .long M_peak, .long M_beside, .int M_besideAt]))]) (ci := 8) (v := .long 0) (C := RX8) (T := TX8) (N := 22) hx hb hts iX8 tyX8_ok nmX8 hown hK hq 0 rfl rfl 16 (by decide) lk1_ rfl rfl rfl (Nat.le_of_ble_eq_true rfl) dX8_startRun_7 rfl (fun H locs hq => ?_)
  refine lv_aload_n hx hb dX8_startRun_10 rfl (lv_at hl 0 rfl) ?_
  refine lv_lconst (v := 0) hx hb dX8_startRun_11 (by decide) ?_
  refine kk_put (ws' := [(aM, .inr (8, [.ref rM_now, .ref rM_kept, .ref rM_isKept, .ref rM_refused, .int M_at, .int M_fault, .ref rM_values, .int M_valueMany, .ref rM_signs, .int M_signMany, .long M_tells, .int M_way, .int M_wish, .long M_moreTick, .long M_moreForce, .int 0, .long 0, .long 0, .ref rM_was, .long M_peak, .long M_beside, .int M_besideAt]))]) (ci := 8) (v := .long 0) (C := RX8) (T := TX8) (N := 22) hx hb hts iX8 tyX8_ok nmX8 hown hK hq 0 rfl rfl 17 (by decide) lk2_ rfl rfl rfl (Nat.le_of_ble_eq_true rfl) dX8_startRun_12 rfl (fun H locs hq => ?_)
  refine lv_aload_n hx hb dX8_startRun_15 rfl (lv_at hl 0 rfl) ?_
  refine lv_lconst (v := 0) hx hb dX8_startRun_16 (by decide) ?_
  refine kk_put (ws' := [(aM, .inr (8, [.ref rM_now, .ref rM_kept, .ref rM_isKept, .ref rM_refused, .int M_at, .int M_fault, .ref rM_values, .int M_valueMany, .ref rM_signs, .int M_signMany, .long M_tells, .int M_way, .int M_wish, .long M_moreTick, .long M_moreForce, .int 0, .long 0, .long 0, .ref rM_was, .long 0, .long M_beside, .int M_besideAt]))]) (ci := 8) (v := .long 0) (C := RX8) (T := TX8) (N := 22) hx hb hts iX8 tyX8_ok nmX8 hown hK hq 0 rfl rfl 19 (by decide) lk3_ rfl rfl rfl (Nat.le_of_ble_eq_true rfl) dX8_startRun_17 rfl (fun H locs hq => ?_)
  refine lv_aload_n hx hb dX8_startRun_20 rfl (lv_at hl 0 rfl) ?_
  refine lv_lconst (v := 0) hx hb dX8_startRun_21 (by decide) ?_
  refine kk_put (ws' := [(aM, .inr (8, [.ref rM_now, .ref rM_kept, .ref rM_isKept, .ref rM_refused, .int M_at, .int M_fault, .ref rM_values, .int M_valueMany, .ref rM_signs, .int M_signMany, .long M_tells, .int M_way, .int M_wish, .long M_moreTick, .long M_moreForce, .int 0, .long 0, .long 0, .ref rM_was, .long 0, .long 0, .int M_besideAt]))]) (ci := 8) (v := .long 0) (C := RX8) (T := TX8) (N := 22) hx hb hts iX8 tyX8_ok nmX8 hown hK hq 0 rfl rfl 20 (by decide) lk4_ rfl rfl rfl (Nat.le_of_ble_eq_true rfl) dX8_startRun_22 rfl (fun H locs hq => ?_)
  refine lv_aload_n hx hb dX8_startRun_25 rfl (lv_at hl 0 rfl) ?_
  refine lv_iconst (v := 0) hx hb dX8_startRun_26 (by decide) ?_
  refine kk_put (ws' := [(aM, .inr (8, [.ref rM_now, .ref rM_kept, .ref rM_isKept, .ref rM_refused, .int M_at, .int M_fault, .ref rM_values, .int M_valueMany, .ref rM_signs, .int M_signMany, .long M_tells, .int M_way, .int M_wish, .long M_moreTick, .long M_moreForce, .int 0, .long 0, .long 0, .ref rM_was, .long 0, .long 0, .int 0]))]) (ci := 8) (v := .int 0) (C := RX8) (T := TX8) (N := 22) hx hb hts iX8 tyX8_ok nmX8 hown hK hq 0 rfl rfl 21 (by decide) lk5_ rfl rfl rfl (Nat.le_of_ble_eq_true rfl) dX8_startRun_27 rfl (fun H locs hq => ?_)
  have hf : ((0, 0, 0, 0, 0, 0) : Int32 × Int64 × Int64 × Int64 × Int64 × Int32) = fX8_startRun := by
    exact rfl
  exact kk_ev hx hb hr hlocks hK hq [0] (0, 0, 0, 0, 0, 0) rfl (by decide) dX8_startRun_30 hf
def lpX8_beginsAt_2  : Nat → Int32 → (Nat → Int64) → Int32 × (Nat → Int64)
  | 0, _, _ => (0, fun _ => 0)
  | N + 1, i, nf =>
    if 13 ≤ i then (
    (i, nf))
    else (
    let fNw_2 : Nat → Int64 := vp_updL nf i.toNatClampNeg 0
    lpX8_beginsAt_2 N (i + 1) fNw_2)

def fX8_beginsAt (p1 : Int64) (fNw : Nat → Int64) : (Nat → Int64) :=
  let z_3 : Int32 × (Nat → Int64) := lpX8_beginsAt_2 (14) 0 fNw
  let fNw_4 : Nat → Int64 := vp_updL z_3.2 0 p1
  let r_6 : Int64 := fX8_size p1
  let fNw_8 : Nat → Int64 := vp_updL fNw_4 4 r_6
  fNw_8

set_option maxHeartbeats 4000000 in
set_option maxRecDepth 100000 in
theorem c_X8_beginsAt (l : Launch) (G : va_G) (aM aNw rM_kept rM_isKept rM_refused rM_values rM_signs rM_was : Nat) (cNw : ClassId) (p1 : Int64) (M_at : Int32) (M_fault : Int32) (M_valueMany : Int32) (M_signMany : Int32) (M_tells : Int64) (M_way : Int32) (M_wish : Int32) (M_moreTick : Int64) (M_moreForce : Int64) (M_runTurns : Int32) (M_runFirst : Int64) (M_runLast : Int64) (M_peak : Int64) (M_beside : Int64) (M_besideAt : Int32) (fNw : Nat → Int64) : kCv l yX8_beginsAt (Cond.code yX8_beginsAt cX8_beginsAt 4 none :: wsL_law) ({ frames := 1, cells := 0, slots := 0, locals := 21 }) G [(cNw, .long)] [.ref aM, .long p1] [(aM, .inr (8, [.ref aNw, .ref rM_kept, .ref rM_isKept, .ref rM_refused, .int M_at, .int M_fault, .ref rM_values, .int M_valueMany, .ref rM_signs, .int M_signMany, .long M_tells, .int M_way, .int M_wish, .long M_moreTick, .long M_moreForce, .int M_runTurns, .long M_runFirst, .long M_runLast, .ref rM_was, .long M_peak, .long M_beside, .int M_besideAt])), (aNw, .inl (cNw, 139, .inr (.inl fNw)))] (fun (u : Nat → Int64) => u = fX8_beginsAt p1 fNw) (fun (u : Nat → Int64) => [(aM, .inr (8, [.ref aNw, .ref rM_kept, .ref rM_isKept, .ref rM_refused, .int M_at, .int M_fault, .ref rM_values, .int M_valueMany, .ref rM_signs, .int M_signMany, .long M_tells, .int M_way, .int M_wish, .long M_moreTick, .long M_moreForce, .int M_runTurns, .long M_runFirst, .long M_runLast, .ref rM_was, .long M_peak, .long M_beside, .int M_besideAt])), (aNw, .inl (cNw, 139, .inr (.inl u)))]) := by
  intro sz
  refine Met.ofW (cc := cX8_beginsAt) (maxL := 4) (ret := none) (by decide) rfl ?_
  intro p e s m args below meth c s₁ B hml hv
  obtain ⟨rfl, hv⟩ := hv
  obtain ⟨rfl, hK, hq, hA⟩ := kk_begin hv
  have hx := B.exec
  have hb := B.bytes
  have hr := B.returns
  have hts := atoms_spec (ws := (Cond.code yX8_beginsAt cX8_beginsAt 4 none :: wsL_law)) B.pre
  have hown : s.vm.findClass RX8 = some m.cls := findClass_of_methodNamed B.named
  have hlocks := B.notSynchronized
  have hsb : ∀ w ∈ wsL_law, w ∈ (Cond.code yX8_beginsAt cX8_beginsAt 4 none :: wsL_law) := fun _ h => List.mem_cons_of_mem _ h
  generalize va_A [(aM, .inr (8, [.ref aNw, .ref rM_kept, .ref rM_isKept, .ref rM_refused, .int M_at, .int M_fault, .ref rM_values, .int M_valueMany, .ref rM_signs, .int M_signMany, .long M_tells, .int M_way, .int M_wish, .long M_moreTick, .long M_moreForce, .int M_runTurns, .long M_runFirst, .long M_runLast, .ref rM_was, .long M_peak, .long M_beside, .int M_besideAt])), (aNw, .inl (cNw, 139, .inr (.inl fNw)))] s.heap.size = A at hq hA ⊢
  have iX8 : ∀ w ∈ u_ws RX8 TX8 22, w ∈ (Cond.code yX8_beginsAt cX8_beginsAt 4 none :: wsL_law) := fun w h => hsb w (bin_X8 w h)
  have lk0_ := hts _ (hsb _ wd_117)
  have hl := lv_entry ([.ref aM, .long p1]) (n := 4) (Nat.le_of_ble_eq_true rfl)
  rw [lg_entry_eq]
  generalize (lg_sl ([.ref aM, .long p1]) ++ List.replicate (4 - (lg_sl ([.ref aM, .long p1])).length) Slot.unset).toArray = ls at hl ⊢
  have hl : lv_has ls 4 [(0, .ref aM), (1, .long p1)] := hl
  refine lv_iconst (v := 0) hx hb dX8_beginsAt_0 (by decide) ?_
  refine lv_istore_n (lv' := [(3, .int 0), (0, .ref aM), (1, .long p1)]) hx hb dX8_beginsAt_1 rfl hl (by decide) rfl (fun ls hl => ?_)
  refine kk_loop2 (fun N2 (i : Int32) (nf : Nat → Int64) (H : Heap) (locs : List Loc) (ls : Array Slot) => lpX8_beginsAt_2 (14) 0 fNw = lpX8_beginsAt_2 N2 i nf ∧ (0 ≤ i.toInt) ∧ (i.toInt ≤ 13) ∧ (i.toInt + N2 = 14) ∧ lv_has ls 4 [(3, .int i), (0, .ref aM), (1, .long p1)] ∧ kAt G A s [(aM, .inr (8, [.ref aNw, .ref rM_kept, .ref rM_isKept, .ref rM_refused, .int M_at, .int M_fault, .ref rM_values, .int M_valueMany, .ref rM_signs, .int M_signMany, .long M_tells, .int M_way, .int M_wish, .long M_moreTick, .long M_moreForce, .int M_runTurns, .long M_runFirst, .long M_runLast, .ref rM_was, .long M_peak, .long M_beside, .int M_besideAt])), (aNw, .inl (cNw, 139, .inr (.inl nf)))] H locs) 2 (fun i nf => []) (fun i nf H locs ls hv => ?_) (fun N2 i nf H locs ls ih2 hv => ?_) (14) 0 fNw _ _ _ ⟨rfl, (by decide), (by decide), (by decide), lv_sub hl [0, 1, 2] rfl, hq⟩
  · skip
    obtain ⟨hrel2, i0, i1, hN, hl, hq⟩ := hv
    omega
  · skip
    obtain ⟨hrel2, i0, i1, hN, hl, hq⟩ := hv
    refine lv_iload_n hx hb dX8_beginsAt_2 rfl (lv_at hl 0 rfl) ?_
    refine lv_bipush (v := 13) hx hb dX8_beginsAt_3 (by decide) ?_
    refine lv_icmp_ge (tgt := 21) hx hb dX8_beginsAt_5 (by decide) (fun c_1 => ?_) (fun c_1 => ?_)
    · skip
      have hx_2 : ((i, nf) : Int32 × (Nat → Int64)) = lpX8_beginsAt_2 (14) 0 fNw := (hrel2.trans ((if_pos c_1))).symm
      obtain ⟨z_3, gz_3⟩ : ∃ z : Int32 × (Nat → Int64), z = (i, nf) := ⟨_, rfl⟩
      have ez_3 : z_3 = lpX8_beginsAt_2 (14) 0 fNw := gz_3.trans hx_2
      have hl : lv_has ls 4 [(3, .int z_3.1), (0, .ref aM), (1, .long p1)] := by subst gz_3; exact hl
      have hq : kAt G A s [(aM, .inr (8, [.ref aNw, .ref rM_kept, .ref rM_isKept, .ref rM_refused, .int M_at, .int M_fault, .ref rM_values, .int M_valueMany, .ref rM_signs, .int M_signMany, .long M_tells, .int M_way, .int M_wish, .long M_moreTick, .long M_moreForce, .int M_runTurns, .long M_runFirst, .long M_runLast, .ref rM_was, .long M_peak, .long M_beside, .int M_besideAt])), (aNw, .inl (cNw, 139, .inr (.inl z_3.2)))] H locs := by subst gz_3; exact hq
      refine lv_aload_n hx hb dX8_beginsAt_21 rfl (lv_at hl 1 rfl) ?_
      refine kk_get (ci := 8) (v := .ref aNw) (C := RX8) (T := TX8) (N := 22) hx hb hts iX8 hown hK hq 0 rfl rfl 0 (by decide) lk0_ rfl dX8_beginsAt_22 ?_
      refine lv_iconst (v := 0) hx hb dX8_beginsAt_25 (by decide) ?_
      refine lv_lload_n hx hb dX8_beginsAt_26 rfl (lv_at hl 2 rfl) ?_
      refine kk_last (ws' := [(aM, .inr (8, [.ref aNw, .ref rM_kept, .ref rM_isKept, .ref rM_refused, .int M_at, .int M_fault, .ref rM_values, .int M_valueMany, .ref rM_signs, .int M_signMany, .long M_tells, .int M_way, .int M_wish, .long M_moreTick, .long M_moreForce, .int M_runTurns, .long M_runFirst, .long M_runLast, .ref rM_was, .long M_peak, .long M_beside, .int M_besideAt])), (aNw, .inl (cNw, 139, .inr (.inl (vp_updL z_3.2 0 p1))))]) hx hb hK hq 1 0 rfl rfl 0 rfl (by decide) (by decide) dX8_beginsAt_27 rfl (fun H locs hq => ?_)
      obtain ⟨fNw_4, efNw_4⟩ : ∃ z : Nat → Int64, z = vp_updL z_3.2 0 p1 := ⟨_, rfl⟩
      rw [← efNw_4] at hq
      refine lv_aload_n hx hb dX8_beginsAt_28 rfl (lv_at hl 1 rfl) ?_
      refine kk_get (ci := 8) (v := .ref aNw) (C := RX8) (T := TX8) (N := 22) hx hb hts iX8 hown hK hq 0 rfl rfl 0 (by decide) lk0_ rfl dX8_beginsAt_29 ?_
      refine lv_iconst (v := 4) hx hb dX8_beginsAt_32 (by decide) ?_
      refine lv_lload_n hx hb dX8_beginsAt_33 rfl (lv_at hl 2 rfl) ?_
      refine kk_Sl (As := [.long p1]) (rest := [.int 4, .ref aNw]) (wr := [(aM, .inr (8, [.ref aNw, .ref rM_kept, .ref rM_isKept, .ref rM_refused, .int M_at, .int M_fault, .ref rM_values, .int M_valueMany, .ref rM_signs, .int M_signMany, .long M_tells, .int M_way, .int M_wish, .long M_moreTick, .long M_moreForce, .int M_runTurns, .long M_runFirst, .long M_runLast, .ref rM_was, .long M_peak, .long M_beside, .int M_besideAt])), (aNw, .inl (cNw, 139, .inr (.inl fNw_4)))]) ⟨hx, hb, hml, hown, hts⟩ (c_X8_size l G p1) (kk_cwS 1 hts hsb wd_401 wd_402 wd_5 wd_403 rfl rfl hd_X8_size ⟨Nat.le_of_ble_eq_true rfl, Nat.le_of_ble_eq_true rfl⟩) hA hK hq [] [0, 1] [] rfl rfl rfl (by decide) (by decide) (by decide) rfl hl.1 rfl (Nat.le_of_ble_eq_true rfl) dX8_beginsAt_34 ⟨Nat.zero_le _, Nat.zero_le _⟩ (fun r_6 u_5 H locs h_7 hq => ?_)
      have er_6 := h_7
      have hq : kAt G A s [(aM, .inr (8, [.ref aNw, .ref rM_kept, .ref rM_isKept, .ref rM_refused, .int M_at, .int M_fault, .ref rM_values, .int M_valueMany, .ref rM_signs, .int M_signMany, .long M_tells, .int M_way, .int M_wish, .long M_moreTick, .long M_moreForce, .int M_runTurns, .long M_runFirst, .long M_runLast, .ref rM_was, .long M_peak, .long M_beside, .int M_besideAt])), (aNw, .inl (cNw, 139, .inr (.inl fNw_4)))] H locs := hq
      refine kk_last (ws' := [(aM, .inr (8, [.ref aNw, .ref rM_kept, .ref rM_isKept, .ref rM_refused, .int M_at, .int M_fault, .ref rM_values, .int M_valueMany, .ref rM_signs, .int M_signMany, .long M_tells, .int M_way, .int M_wish, .long M_moreTick, .long M_moreForce, .int M_runTurns, .long M_runFirst, .long M_runLast, .ref rM_was, .long M_peak, .long M_beside, .int M_besideAt])), (aNw, .inl (cNw, 139, .inr (.inl (vp_updL fNw_4 4 r_6))))]) hx hb hK hq 1 0 rfl rfl 4 rfl (by decide) (by decide) dX8_beginsAt_37 rfl (fun H locs hq => ?_)
      obtain ⟨fNw_8, efNw_8⟩ : ∃ z : Nat → Int64, z = vp_updL fNw_4 4 r_6 := ⟨_, rfl⟩
      rw [← efNw_8] at hq
      have hf : (fNw_8 : (Nat → Int64)) = fX8_beginsAt p1 fNw := by
        exact ((congrArg (fun (z_3 : Int32 × (Nat → Int64)) => ((let fNw_4 : Nat → Int64 := vp_updL z_3.2 0 p1
  let r_6 : Int64 := fX8_size p1
  let fNw_8 : Nat → Int64 := vp_updL fNw_4 4 r_6
  fNw_8) : (Nat → Int64))) ez_3.symm).trans ((congrArg (fun (fNw_4 : Nat → Int64) => ((let r_6 : Int64 := fX8_size p1
  let fNw_8 : Nat → Int64 := vp_updL fNw_4 4 r_6
  fNw_8) : (Nat → Int64))) efNw_4.symm).trans ((congrArg (fun (r_6 : Int64) => ((let fNw_8 : Nat → Int64 := vp_updL fNw_4 4 r_6
  fNw_8) : (Nat → Int64))) er_6.symm).trans ((congrArg (fun (fNw_8 : Nat → Int64) => ((fNw_8) : (Nat → Int64))) efNw_8.symm))))).symm
      exact kk_ev hx hb hr hlocks hK hq [0, 1] fNw_8 rfl (by decide) dX8_beginsAt_38 hf
    · skip
      have hi0 := kk_nle (k := 13) rfl c_1
      have hi : i.toInt < (139 : Nat) := by omega
      refine lv_aload_n hx hb dX8_beginsAt_8 rfl (lv_at hl 1 rfl) ?_
      refine kk_get (ci := 8) (v := .ref aNw) (C := RX8) (T := TX8) (N := 22) hx hb hts iX8 hown hK hq 0 rfl rfl 0 (by decide) lk0_ rfl dX8_beginsAt_9 ?_
      refine lv_iload_n hx hb dX8_beginsAt_12 rfl (lv_at hl 0 rfl) ?_
      refine lv_lconst (v := 0) hx hb dX8_beginsAt_13 (by decide) ?_
      refine kk_last (ws' := [(aM, .inr (8, [.ref aNw, .ref rM_kept, .ref rM_isKept, .ref rM_refused, .int M_at, .int M_fault, .ref rM_values, .int M_valueMany, .ref rM_signs, .int M_signMany, .long M_tells, .int M_way, .int M_wish, .long M_moreTick, .long M_moreForce, .int M_runTurns, .long M_runFirst, .long M_runLast, .ref rM_was, .long M_peak, .long M_beside, .int M_besideAt])), (aNw, .inl (cNw, 139, .inr (.inl (vp_updL nf i.toNatClampNeg 0))))]) hx hb hK hq 1 0 rfl rfl i.toNatClampNeg (kk_cl i0) (kk_clt i0 hi) (by decide) dX8_beginsAt_14 rfl (fun H locs hq => ?_)
      obtain ⟨fNw_9, efNw_9⟩ : ∃ z : Nat → Int64, z = vp_updL nf i.toNatClampNeg 0 := ⟨_, rfl⟩
      rw [← efNw_9] at hq
      refine lv_iinc (v := i + 1) (lv' := [(3, .int (i + 1)), (0, .ref aM), (1, .long p1)]) hx hb dX8_beginsAt_15 hl (k := 0) rfl rfl (by decide) rfl (fun ls hl => ?_)
      refine lv_goto (tgt := 2) hx hb dX8_beginsAt_18 (by decide) ?_
      exact ih2 (i + 1) fNw_9 _ _ _ ⟨(hrel2.trans ((if_neg c_1).trans ((congrArg (fun (fNw_9 : Nat → Int64) => ((lpX8_beginsAt_2 N2 (i + 1) fNw_9) : Int32 × (Nat → Int64))) efNw_9.symm)))), (by have := kk_inc (x := i) (by omega); omega), (by have := kk_inc (x := i) (by omega); omega), (by have := kk_inc (x := i) (by omega); omega), lv_sub hl [0, 1, 2] rfl, hq⟩
theorem hd_X8_beginsAt : yX8_beginsAt.cls = RX8 ∧ yX8_beginsAt.cls ≠ "java/lang/invoke/MethodHandle" ∧ yX8_beginsAt.cls ≠ "java/lang/invoke/VarHandle" ∧ (parseMethodDescriptor yX8_beginsAt.desc).map (fun d => d.parameters.length) = some 1 := by decide +kernel
def fX8_begin (p1 : Int32) (fNw : Nat → Int64) (fRf : Nat → Int32) : Int32 × (Nat → Int64) × (Nat → Int32) :=
  let r_2 : Int32 := fX8_in p1.toInt64 (-1000000) 1000000
  if r_2 = 0 then (
    let r_9 : Int32 := (fX8_bad (-2) fRf).1
    let u_8 : Nat → Int32 := (fX8_bad (-2) fRf).2
    (r_9, fNw, u_8))
  else (
    let u_5 : Nat → Int64 := fX8_beginsAt p1.toInt64 fNw
    (1, u_5, fRf))

set_option maxHeartbeats 4000000 in
set_option maxRecDepth 100000 in
theorem c_X8_begin (l : Launch) (G : va_G) (aM aNw aRf rM_kept rM_isKept rM_values rM_signs rM_was : Nat) (cNw cRf : ClassId) (p1 : Int32) (M_at : Int32) (M_fault : Int32) (M_valueMany : Int32) (M_signMany : Int32) (M_tells : Int64) (M_way : Int32) (M_wish : Int32) (M_moreTick : Int64) (M_moreForce : Int64) (M_runTurns : Int32) (M_runFirst : Int64) (M_runLast : Int64) (M_peak : Int64) (M_beside : Int64) (M_besideAt : Int32) (fNw : Nat → Int64) (fRf : Nat → Int32) : kCi l yX8_begin (Cond.code yX8_begin cX8_begin 2 (some .int) :: wsL_law) ({ frames := 2, cells := 0, slots := 0, locals := 44 }) G [(cNw, .long), (cRf, .int)] [.ref aM, .int p1] [(aM, .inr (8, [.ref aNw, .ref rM_kept, .ref rM_isKept, .ref aRf, .int M_at, .int M_fault, .ref rM_values, .int M_valueMany, .ref rM_signs, .int M_signMany, .long M_tells, .int M_way, .int M_wish, .long M_moreTick, .long M_moreForce, .int M_runTurns, .long M_runFirst, .long M_runLast, .ref rM_was, .long M_peak, .long M_beside, .int M_besideAt])), (aNw, .inl (cNw, 139, .inr (.inl fNw))), (aRf, .inl (cRf, 3, .inl fRf))] (fun (r : Int32) (u : (Nat → Int64) × (Nat → Int32)) => r = (fX8_begin p1 fNw fRf).1 ∧ u = (fX8_begin p1 fNw fRf).2) (fun (u : (Nat → Int64) × (Nat → Int32)) => [(aM, .inr (8, [.ref aNw, .ref rM_kept, .ref rM_isKept, .ref aRf, .int M_at, .int M_fault, .ref rM_values, .int M_valueMany, .ref rM_signs, .int M_signMany, .long M_tells, .int M_way, .int M_wish, .long M_moreTick, .long M_moreForce, .int M_runTurns, .long M_runFirst, .long M_runLast, .ref rM_was, .long M_peak, .long M_beside, .int M_besideAt])), (aNw, .inl (cNw, 139, .inr (.inl u.1))), (aRf, .inl (cRf, 3, .inl u.2))]) := by
  intro sz
  refine Met.ofW (cc := cX8_begin) (maxL := 2) (ret := (some .int)) (by decide) rfl ?_
  intro p e s m args below meth c s₁ B hml hv
  obtain ⟨rfl, hv⟩ := hv
  obtain ⟨rfl, hK, hq, hA⟩ := kk_begin hv
  have hx := B.exec
  have hb := B.bytes
  have hr := B.returns
  have hts := atoms_spec (ws := (Cond.code yX8_begin cX8_begin 2 (some .int) :: wsL_law)) B.pre
  have hown : s.vm.findClass RX8 = some m.cls := findClass_of_methodNamed B.named
  have hlocks := B.notSynchronized
  have hsb : ∀ w ∈ wsL_law, w ∈ (Cond.code yX8_begin cX8_begin 2 (some .int) :: wsL_law) := fun _ h => List.mem_cons_of_mem _ h
  generalize va_A [(aM, .inr (8, [.ref aNw, .ref rM_kept, .ref rM_isKept, .ref aRf, .int M_at, .int M_fault, .ref rM_values, .int M_valueMany, .ref rM_signs, .int M_signMany, .long M_tells, .int M_way, .int M_wish, .long M_moreTick, .long M_moreForce, .int M_runTurns, .long M_runFirst, .long M_runLast, .ref rM_was, .long M_peak, .long M_beside, .int M_besideAt])), (aNw, .inl (cNw, 139, .inr (.inl fNw))), (aRf, .inl (cRf, 3, .inl fRf))] s.heap.size = A at hq hA ⊢
  have lk0_ := hts _ (hsb _ wd_395)
  have lk1_ := hts _ (hsb _ wd_396)
  have hl := lv_entry ([.ref aM, .int p1]) (n := 2) (Nat.le_of_ble_eq_true rfl)
  rw [lg_entry_eq]
  generalize (lg_sl ([.ref aM, .int p1]) ++ List.replicate (2 - (lg_sl ([.ref aM, .int p1])).length) Slot.unset).toArray = ls at hl ⊢
  have hl : lv_has ls 2 [(0, .ref aM), (1, .int p1)] := hl
  refine lv_iload_n hx hb dX8_begin_0 rfl (lv_at hl 1 rfl) ?_
  refine lv_i2l hx hb dX8_begin_1 rfl ?_
  refine lv_ldc2 hx hb hown lk0_ dX8_begin_2 ?_
  refine lv_ldc2 hx hb hown lk1_ dX8_begin_5 ?_
  refine kk_Si (As := [.long p1.toInt64, .long (-1000000), .long 1000000]) (rest := []) (wr := [(aM, .inr (8, [.ref aNw, .ref rM_kept, .ref rM_isKept, .ref aRf, .int M_at, .int M_fault, .ref rM_values, .int M_valueMany, .ref rM_signs, .int M_signMany, .long M_tells, .int M_way, .int M_wish, .long M_moreTick, .long M_moreForce, .int M_runTurns, .long M_runFirst, .long M_runLast, .ref rM_was, .long M_peak, .long M_beside, .int M_besideAt])), (aNw, .inl (cNw, 139, .inr (.inl fNw))), (aRf, .inl (cRf, 3, .inl fRf))]) ⟨hx, hb, hml, hown, hts⟩ (c_X8_in l G p1.toInt64 (-1000000) 1000000) (kk_cwS 3 hts hsb wd_156 wd_157 wd_5 wd_158 rfl rfl hd_X8_in ⟨Nat.le_of_ble_eq_true rfl, Nat.le_of_ble_eq_true rfl⟩) hA hK hq [] [0, 1, 2] [] rfl rfl rfl (by decide) (by decide) (by decide) rfl hl.1 rfl (Nat.le_of_ble_eq_true rfl) dX8_begin_8 ⟨Nat.zero_le _, Nat.zero_le _⟩ (fun r_2 u_1 H locs h_3 hq => ?_)
  obtain ⟨er_2, zr_2⟩ := h_3
  have hq : kAt G A s [(aM, .inr (8, [.ref aNw, .ref rM_kept, .ref rM_isKept, .ref aRf, .int M_at, .int M_fault, .ref rM_values, .int M_valueMany, .ref rM_signs, .int M_signMany, .long M_tells, .int M_way, .int M_wish, .long M_moreTick, .long M_moreForce, .int M_runTurns, .long M_runFirst, .long M_runLast, .ref rM_was, .long M_peak, .long M_beside, .int M_besideAt])), (aNw, .inl (cNw, 139, .inr (.inl fNw))), (aRf, .inl (cRf, 3, .inl fRf))] H locs := hq
  refine lv_if_ne (tgt := 21) hx hb dX8_begin_11 (by decide) (fun c_4 => ?_) (fun c_4 => ?_)
  · skip
    refine lv_aload_n hx hb dX8_begin_21 rfl (lv_at hl 0 rfl) ?_
    refine lv_iload_n hx hb dX8_begin_22 rfl (lv_at hl 1 rfl) ?_
    refine lv_i2l hx hb dX8_begin_23 rfl ?_
    refine kk_Vv (As := [.long p1.toInt64]) (rest := []) (wr := [(aRf, .inl (cRf, 3, .inl fRf))]) ⟨hx, hb, hml, hown, hts⟩ (c_X8_beginsAt l G aM aNw rM_kept rM_isKept aRf rM_values rM_signs rM_was cNw p1.toInt64 M_at M_fault M_valueMany M_signMany M_tells M_way M_wish M_moreTick M_moreForce M_runTurns M_runFirst M_runLast M_peak M_beside M_besideAt fNw) (kk_cwV 1 hts hsb wd_397 wd_398 wd_399 wd_5 wd_400 rfl rfl hd_X8_beginsAt ⟨Nat.le_of_ble_eq_true rfl, Nat.le_of_ble_eq_true rfl⟩) hA hK hq [0, 1] [2] [0] rfl rfl rfl (by decide) (by decide) (by decide) 0 8 rfl rfl rfl rfl hl.1 rfl (Nat.le_of_ble_eq_true rfl) dX8_begin_24 ⟨Nat.zero_le _, Nat.zero_le _⟩ (fun u_5 H locs h_7 hq => ?_)
    have eu_5 := h_7
    have hq : kAt G A s [(aRf, .inl (cRf, 3, .inl fRf)), (aM, .inr (8, [.ref aNw, .ref rM_kept, .ref rM_isKept, .ref aRf, .int M_at, .int M_fault, .ref rM_values, .int M_valueMany, .ref rM_signs, .int M_signMany, .long M_tells, .int M_way, .int M_wish, .long M_moreTick, .long M_moreForce, .int M_runTurns, .long M_runFirst, .long M_runLast, .ref rM_was, .long M_peak, .long M_beside, .int M_besideAt])), (aNw, .inl (cNw, 139, .inr (.inl u_5)))] H locs := hq
    refine lv_iconst (v := 1) hx hb dX8_begin_27 (by decide) ?_
    have hf : ((1, u_5, fRf) : Int32 × (Nat → Int64) × (Nat → Int32)) = fX8_begin p1 fNw fRf := by
      exact ((congrArg (fun (r_2 : Int32) => ((if r_2 = 0 then (
    let r_9 : Int32 := (fX8_bad (-2) fRf).1
    let u_8 : Nat → Int32 := (fX8_bad (-2) fRf).2
    (r_9, fNw, u_8))
  else (
    let u_5 : Nat → Int64 := fX8_beginsAt p1.toInt64 fNw
    (1, u_5, fRf))) : Int32 × (Nat → Int64) × (Nat → Int32))) er_2.symm).trans ((if_neg c_4).trans ((congrArg (fun (u_5 : Nat → Int64) => (((1, u_5, fRf)) : Int32 × (Nat → Int64) × (Nat → Int32))) eu_5.symm)))).symm
    have hf1 := congrArg Prod.fst hf
    have hf2 := congrArg Prod.snd hf
    exact kk_ei hx hb hr hlocks hK hq [1, 2, 0] (u_5, fRf) rfl (by decide) dX8_begin_28 ⟨hf1, hf2⟩
  · skip
    refine lv_aload_n hx hb dX8_begin_14 rfl (lv_at hl 0 rfl) ?_
    refine lv_bipush (v := -2) hx hb dX8_begin_15 (by decide) ?_
    refine kk_Vi (As := [.int (-2)]) (rest := []) (wr := [(aNw, .inl (cNw, 139, .inr (.inl fNw)))]) ⟨hx, hb, hml, hown, hts⟩ (c_X8_bad l G aM aRf aNw rM_kept rM_isKept rM_values rM_signs rM_was cRf (-2) M_at M_fault M_valueMany M_signMany M_tells M_way M_wish M_moreTick M_moreForce M_runTurns M_runFirst M_runLast M_peak M_beside M_besideAt fRf) (kk_cwV 1 hts hsb wd_159 wd_160 wd_161 wd_5 wd_162 rfl rfl hd_X8_bad ⟨Nat.le_of_ble_eq_true rfl, Nat.le_of_ble_eq_true rfl⟩) hA hK hq [0, 2] [1] [1] rfl rfl rfl (by decide) (by decide) (by decide) 0 8 rfl rfl rfl rfl hl.1 rfl (Nat.le_of_ble_eq_true rfl) dX8_begin_17 ⟨Nat.zero_le _, Nat.zero_le _⟩ (fun r_9 u_8 H locs h_10 hq => ?_)
    obtain ⟨er_9, eu_8⟩ := h_10
    have hq : kAt G A s [(aNw, .inl (cNw, 139, .inr (.inl fNw))), (aM, .inr (8, [.ref aNw, .ref rM_kept, .ref rM_isKept, .ref aRf, .int M_at, .int M_fault, .ref rM_values, .int M_valueMany, .ref rM_signs, .int M_signMany, .long M_tells, .int M_way, .int M_wish, .long M_moreTick, .long M_moreForce, .int M_runTurns, .long M_runFirst, .long M_runLast, .ref rM_was, .long M_peak, .long M_beside, .int M_besideAt])), (aRf, .inl (cRf, 3, .inl u_8))] H locs := hq
    have hf : ((r_9, fNw, u_8) : Int32 × (Nat → Int64) × (Nat → Int32)) = fX8_begin p1 fNw fRf := by
      exact ((congrArg (fun (r_2 : Int32) => ((if r_2 = 0 then (
    let r_9 : Int32 := (fX8_bad (-2) fRf).1
    let u_8 : Nat → Int32 := (fX8_bad (-2) fRf).2
    (r_9, fNw, u_8))
  else (
    let u_5 : Nat → Int64 := fX8_beginsAt p1.toInt64 fNw
    (1, u_5, fRf))) : Int32 × (Nat → Int64) × (Nat → Int32))) er_2.symm).trans ((if_pos c_4).trans ((congrArg (fun (r_9 : Int32) => ((let u_8 : Nat → Int32 := (fX8_bad (-2) fRf).2
  (r_9, fNw, u_8)) : Int32 × (Nat → Int64) × (Nat → Int32))) er_9.symm).trans ((congrArg (fun (u_8 : Nat → Int32) => (((r_9, fNw, u_8)) : Int32 × (Nat → Int64) × (Nat → Int32))) eu_8.symm))))).symm
    have hf1 := congrArg Prod.fst hf
    have hf2 := congrArg Prod.snd hf
    exact kk_ei hx hb hr hlocks hK hq [1, 0, 2] (fNw, u_8) rfl (by decide) dX8_begin_20 ⟨hf1, hf2⟩
def fX8_restsAt (p1 : Int64) (fNw : Nat → Int64) : (Nat → Int64) :=
  let x3_1 : Int64 := fNw 5
  let u_2 : Nat → Int64 := fX8_beginsAt p1 fNw
  let fNw_5 : Nat → Int64 := vp_updL u_2 4 0
  let fNw_6 : Nat → Int64 := vp_updL fNw_5 5 x3_1
  fNw_6

set_option maxHeartbeats 4000000 in
set_option maxRecDepth 100000 in
theorem c_X8_restsAt (l : Launch) (G : va_G) (aM aNw rM_kept rM_isKept rM_refused rM_values rM_signs rM_was : Nat) (cNw : ClassId) (p1 : Int64) (M_at : Int32) (M_fault : Int32) (M_valueMany : Int32) (M_signMany : Int32) (M_tells : Int64) (M_way : Int32) (M_wish : Int32) (M_moreTick : Int64) (M_moreForce : Int64) (M_runTurns : Int32) (M_runFirst : Int64) (M_runLast : Int64) (M_peak : Int64) (M_beside : Int64) (M_besideAt : Int32) (fNw : Nat → Int64) : kCv l yX8_restsAt (Cond.code yX8_restsAt cX8_restsAt 5 none :: wsL_law) ({ frames := 2, cells := 0, slots := 0, locals := 44 }) G [(cNw, .long)] [.ref aM, .long p1] [(aM, .inr (8, [.ref aNw, .ref rM_kept, .ref rM_isKept, .ref rM_refused, .int M_at, .int M_fault, .ref rM_values, .int M_valueMany, .ref rM_signs, .int M_signMany, .long M_tells, .int M_way, .int M_wish, .long M_moreTick, .long M_moreForce, .int M_runTurns, .long M_runFirst, .long M_runLast, .ref rM_was, .long M_peak, .long M_beside, .int M_besideAt])), (aNw, .inl (cNw, 139, .inr (.inl fNw)))] (fun (u : Nat → Int64) => u = fX8_restsAt p1 fNw) (fun (u : Nat → Int64) => [(aM, .inr (8, [.ref aNw, .ref rM_kept, .ref rM_isKept, .ref rM_refused, .int M_at, .int M_fault, .ref rM_values, .int M_valueMany, .ref rM_signs, .int M_signMany, .long M_tells, .int M_way, .int M_wish, .long M_moreTick, .long M_moreForce, .int M_runTurns, .long M_runFirst, .long M_runLast, .ref rM_was, .long M_peak, .long M_beside, .int M_besideAt])), (aNw, .inl (cNw, 139, .inr (.inl u)))]) := by
  intro sz
  refine Met.ofW (cc := cX8_restsAt) (maxL := 5) (ret := none) (by decide) rfl ?_
  intro p e s m args below meth c s₁ B hml hv
  obtain ⟨rfl, hv⟩ := hv
  obtain ⟨rfl, hK, hq, hA⟩ := kk_begin hv
  have hx := B.exec
  have hb := B.bytes
  have hr := B.returns
  have hts := atoms_spec (ws := (Cond.code yX8_restsAt cX8_restsAt 5 none :: wsL_law)) B.pre
  have hown : s.vm.findClass RX8 = some m.cls := findClass_of_methodNamed B.named
  have hlocks := B.notSynchronized
  have hsb : ∀ w ∈ wsL_law, w ∈ (Cond.code yX8_restsAt cX8_restsAt 5 none :: wsL_law) := fun _ h => List.mem_cons_of_mem _ h
  generalize va_A [(aM, .inr (8, [.ref aNw, .ref rM_kept, .ref rM_isKept, .ref rM_refused, .int M_at, .int M_fault, .ref rM_values, .int M_valueMany, .ref rM_signs, .int M_signMany, .long M_tells, .int M_way, .int M_wish, .long M_moreTick, .long M_moreForce, .int M_runTurns, .long M_runFirst, .long M_runLast, .ref rM_was, .long M_peak, .long M_beside, .int M_besideAt])), (aNw, .inl (cNw, 139, .inr (.inl fNw)))] s.heap.size = A at hq hA ⊢
  have iX8 : ∀ w ∈ u_ws RX8 TX8 22, w ∈ (Cond.code yX8_restsAt cX8_restsAt 5 none :: wsL_law) := fun w h => hsb w (bin_X8 w h)
  have lk0_ := hts _ (hsb _ wd_117)
  have hl := lv_entry ([.ref aM, .long p1]) (n := 5) (Nat.le_of_ble_eq_true rfl)
  rw [lg_entry_eq]
  generalize (lg_sl ([.ref aM, .long p1]) ++ List.replicate (5 - (lg_sl ([.ref aM, .long p1])).length) Slot.unset).toArray = ls at hl ⊢
  have hl : lv_has ls 5 [(0, .ref aM), (1, .long p1)] := hl
  refine lv_aload_n hx hb dX8_restsAt_0 rfl (lv_at hl 0 rfl) ?_
  refine kk_get (ci := 8) (v := .ref aNw) (C := RX8) (T := TX8) (N := 22) hx hb hts iX8 hown hK hq 0 rfl rfl 0 (by decide) lk0_ rfl dX8_restsAt_1 ?_
  refine lv_iconst (v := 5) hx hb dX8_restsAt_4 (by decide) ?_
  refine kk_lald hx hb hK hq 1 0 rfl rfl 5 rfl (by decide) (by decide) dX8_restsAt_5 ?_
  refine lv_topl (fun x3_1 ex3_1 => ?_)
  refine lv_lstore_n (lv' := [(3, .long x3_1), (0, .ref aM), (1, .long p1)]) hx hb dX8_restsAt_6 rfl hl (by decide) rfl (fun ls hl => ?_)
  refine lv_aload_n hx hb dX8_restsAt_7 rfl (lv_at hl 1 rfl) ?_
  refine lv_lload_n hx hb dX8_restsAt_8 rfl (lv_at hl 2 rfl) ?_
  refine kk_Vv (As := [.long p1]) (rest := []) (wr := []) ⟨hx, hb, hml, hown, hts⟩ (c_X8_beginsAt l G aM aNw rM_kept rM_isKept rM_refused rM_values rM_signs rM_was cNw p1 M_at M_fault M_valueMany M_signMany M_tells M_way M_wish M_moreTick M_moreForce M_runTurns M_runFirst M_runLast M_peak M_beside M_besideAt fNw) (kk_cwV 1 hts hsb wd_397 wd_398 wd_399 wd_5 wd_400 rfl rfl hd_X8_beginsAt ⟨Nat.le_of_ble_eq_true rfl, Nat.le_of_ble_eq_true rfl⟩) hA hK hq [0, 1] [] [0] rfl rfl rfl (by decide) (by decide) (by decide) 0 8 rfl rfl rfl rfl hl.1 rfl (Nat.le_of_ble_eq_true rfl) dX8_restsAt_9 ⟨Nat.zero_le _, Nat.zero_le _⟩ (fun u_2 H locs h_4 hq => ?_)
  have eu_2 := h_4
  have hq : kAt G A s [(aM, .inr (8, [.ref aNw, .ref rM_kept, .ref rM_isKept, .ref rM_refused, .int M_at, .int M_fault, .ref rM_values, .int M_valueMany, .ref rM_signs, .int M_signMany, .long M_tells, .int M_way, .int M_wish, .long M_moreTick, .long M_moreForce, .int M_runTurns, .long M_runFirst, .long M_runLast, .ref rM_was, .long M_peak, .long M_beside, .int M_besideAt])), (aNw, .inl (cNw, 139, .inr (.inl u_2)))] H locs := hq
  refine lv_aload_n hx hb dX8_restsAt_12 rfl (lv_at hl 1 rfl) ?_
  refine kk_get (ci := 8) (v := .ref aNw) (C := RX8) (T := TX8) (N := 22) hx hb hts iX8 hown hK hq 0 rfl rfl 0 (by decide) lk0_ rfl dX8_restsAt_13 ?_
  refine lv_iconst (v := 4) hx hb dX8_restsAt_16 (by decide) ?_
  refine lv_lconst (v := 0) hx hb dX8_restsAt_17 (by decide) ?_
  refine kk_last (ws' := [(aM, .inr (8, [.ref aNw, .ref rM_kept, .ref rM_isKept, .ref rM_refused, .int M_at, .int M_fault, .ref rM_values, .int M_valueMany, .ref rM_signs, .int M_signMany, .long M_tells, .int M_way, .int M_wish, .long M_moreTick, .long M_moreForce, .int M_runTurns, .long M_runFirst, .long M_runLast, .ref rM_was, .long M_peak, .long M_beside, .int M_besideAt])), (aNw, .inl (cNw, 139, .inr (.inl (vp_updL u_2 4 0))))]) hx hb hK hq 1 0 rfl rfl 4 rfl (by decide) (by decide) dX8_restsAt_18 rfl (fun H locs hq => ?_)
  obtain ⟨fNw_5, efNw_5⟩ : ∃ z : Nat → Int64, z = vp_updL u_2 4 0 := ⟨_, rfl⟩
  rw [← efNw_5] at hq
  refine lv_aload_n hx hb dX8_restsAt_19 rfl (lv_at hl 1 rfl) ?_
  refine kk_get (ci := 8) (v := .ref aNw) (C := RX8) (T := TX8) (N := 22) hx hb hts iX8 hown hK hq 0 rfl rfl 0 (by decide) lk0_ rfl dX8_restsAt_20 ?_
  refine lv_iconst (v := 5) hx hb dX8_restsAt_23 (by decide) ?_
  refine lv_lload_n hx hb dX8_restsAt_24 rfl (lv_at hl 0 rfl) ?_
  refine kk_last (ws' := [(aM, .inr (8, [.ref aNw, .ref rM_kept, .ref rM_isKept, .ref rM_refused, .int M_at, .int M_fault, .ref rM_values, .int M_valueMany, .ref rM_signs, .int M_signMany, .long M_tells, .int M_way, .int M_wish, .long M_moreTick, .long M_moreForce, .int M_runTurns, .long M_runFirst, .long M_runLast, .ref rM_was, .long M_peak, .long M_beside, .int M_besideAt])), (aNw, .inl (cNw, 139, .inr (.inl (vp_updL fNw_5 5 x3_1))))]) hx hb hK hq 1 0 rfl rfl 5 rfl (by decide) (by decide) dX8_restsAt_25 rfl (fun H locs hq => ?_)
  obtain ⟨fNw_6, efNw_6⟩ : ∃ z : Nat → Int64, z = vp_updL fNw_5 5 x3_1 := ⟨_, rfl⟩
  rw [← efNw_6] at hq
  have hf : (fNw_6 : (Nat → Int64)) = fX8_restsAt p1 fNw := by
    exact ((congrArg (fun (x3_1 : Int64) => ((let u_2 : Nat → Int64 := fX8_beginsAt p1 fNw
  let fNw_5 : Nat → Int64 := vp_updL u_2 4 0
  let fNw_6 : Nat → Int64 := vp_updL fNw_5 5 x3_1
  fNw_6) : (Nat → Int64))) ex3_1.symm).trans ((congrArg (fun (u_2 : Nat → Int64) => ((let fNw_5 : Nat → Int64 := vp_updL u_2 4 0
  let fNw_6 : Nat → Int64 := vp_updL fNw_5 5 x3_1
  fNw_6) : (Nat → Int64))) eu_2.symm).trans ((congrArg (fun (fNw_5 : Nat → Int64) => ((let fNw_6 : Nat → Int64 := vp_updL fNw_5 5 x3_1
  fNw_6) : (Nat → Int64))) efNw_5.symm).trans ((congrArg (fun (fNw_6 : Nat → Int64) => ((fNw_6) : (Nat → Int64))) efNw_6.symm))))).symm
  exact kk_ev hx hb hr hlocks hK hq [0, 1] fNw_6 rfl (by decide) dX8_restsAt_26 hf
def lpX8_hold_2 (fNw : Nat → Int64) : Nat → Int32 → (Nat → Int64) → Int32 × (Nat → Int64)
  | 0, _, _ => (0, fun _ => 0)
  | N + 1, i, wf =>
    if 53 ≤ i then (
    (i, wf))
    else (
    let w_2 : Int64 := fNw i.toNatClampNeg
    let fWs_3 : Nat → Int64 := vp_updL wf i.toNatClampNeg w_2
    lpX8_hold_2 fNw N (i + 1) fWs_3)

def fX8_hold (fNw : Nat → Int64) (fWs : Nat → Int64) : (Nat → Int64) :=
  let z_3 : Int32 × (Nat → Int64) := lpX8_hold_2 fNw (54) 0 fWs
  z_3.2

set_option maxHeartbeats 4000000 in
set_option maxRecDepth 100000 in
theorem c_X8_hold (l : Launch) (G : va_G) (aM aNw aWs rM_kept rM_isKept rM_refused rM_values rM_signs : Nat) (cNw cWs : ClassId) (M_at : Int32) (M_fault : Int32) (M_valueMany : Int32) (M_signMany : Int32) (M_tells : Int64) (M_way : Int32) (M_wish : Int32) (M_moreTick : Int64) (M_moreForce : Int64) (M_runTurns : Int32) (M_runFirst : Int64) (M_runLast : Int64) (M_peak : Int64) (M_beside : Int64) (M_besideAt : Int32) (fNw : Nat → Int64) (fWs : Nat → Int64) : kCv l yX8_hold (Cond.code yX8_hold cX8_hold 2 none :: wsL_law) ({ frames := 0, cells := 0, slots := 0, locals := 0 }) G [(cNw, .long), (cWs, .long)] [.ref aM] [(aM, .inr (8, [.ref aNw, .ref rM_kept, .ref rM_isKept, .ref rM_refused, .int M_at, .int M_fault, .ref rM_values, .int M_valueMany, .ref rM_signs, .int M_signMany, .long M_tells, .int M_way, .int M_wish, .long M_moreTick, .long M_moreForce, .int M_runTurns, .long M_runFirst, .long M_runLast, .ref aWs, .long M_peak, .long M_beside, .int M_besideAt])), (aNw, .inl (cNw, 139, .inr (.inl fNw))), (aWs, .inl (cWs, 53, .inr (.inl fWs)))] (fun (u : Nat → Int64) => u = fX8_hold fNw fWs) (fun (u : Nat → Int64) => [(aM, .inr (8, [.ref aNw, .ref rM_kept, .ref rM_isKept, .ref rM_refused, .int M_at, .int M_fault, .ref rM_values, .int M_valueMany, .ref rM_signs, .int M_signMany, .long M_tells, .int M_way, .int M_wish, .long M_moreTick, .long M_moreForce, .int M_runTurns, .long M_runFirst, .long M_runLast, .ref aWs, .long M_peak, .long M_beside, .int M_besideAt])), (aNw, .inl (cNw, 139, .inr (.inl fNw))), (aWs, .inl (cWs, 53, .inr (.inl u)))]) := by
  intro sz
  refine Met.ofW (cc := cX8_hold) (maxL := 2) (ret := none) (by decide) rfl ?_
  intro p e s m args below meth c s₁ B hml hv
  obtain ⟨rfl, hv⟩ := hv
  obtain ⟨rfl, hK, hq, hA⟩ := kk_begin hv
  have hx := B.exec
  have hb := B.bytes
  have hr := B.returns
  have hts := atoms_spec (ws := (Cond.code yX8_hold cX8_hold 2 none :: wsL_law)) B.pre
  have hown : s.vm.findClass RX8 = some m.cls := findClass_of_methodNamed B.named
  have hlocks := B.notSynchronized
  have hsb : ∀ w ∈ wsL_law, w ∈ (Cond.code yX8_hold cX8_hold 2 none :: wsL_law) := fun _ h => List.mem_cons_of_mem _ h
  generalize va_A [(aM, .inr (8, [.ref aNw, .ref rM_kept, .ref rM_isKept, .ref rM_refused, .int M_at, .int M_fault, .ref rM_values, .int M_valueMany, .ref rM_signs, .int M_signMany, .long M_tells, .int M_way, .int M_wish, .long M_moreTick, .long M_moreForce, .int M_runTurns, .long M_runFirst, .long M_runLast, .ref aWs, .long M_peak, .long M_beside, .int M_besideAt])), (aNw, .inl (cNw, 139, .inr (.inl fNw))), (aWs, .inl (cWs, 53, .inr (.inl fWs)))] s.heap.size = A at hq hA ⊢
  have iX8 : ∀ w ∈ u_ws RX8 TX8 22, w ∈ (Cond.code yX8_hold cX8_hold 2 none :: wsL_law) := fun w h => hsb w (bin_X8 w h)
  have lk0_ := hts _ (hsb _ wd_125)
  have lk1_ := hts _ (hsb _ wd_117)
  have hl := lv_entry ([.ref aM]) (n := 2) (Nat.le_of_ble_eq_true rfl)
  rw [lg_entry_eq]
  generalize (lg_sl ([.ref aM]) ++ List.replicate (2 - (lg_sl ([.ref aM])).length) Slot.unset).toArray = ls at hl ⊢
  have hl : lv_has ls 2 [(0, .ref aM)] := hl
  refine lv_iconst (v := 0) hx hb dX8_hold_0 (by decide) ?_
  refine lv_istore_n (lv' := [(1, .int 0), (0, .ref aM)]) hx hb dX8_hold_1 rfl hl (by decide) rfl (fun ls hl => ?_)
  refine kk_loop2 (fun N2 (i : Int32) (wf : Nat → Int64) (H : Heap) (locs : List Loc) (ls : Array Slot) => lpX8_hold_2 fNw (54) 0 fWs = lpX8_hold_2 fNw N2 i wf ∧ (0 ≤ i.toInt) ∧ (i.toInt ≤ 53) ∧ (i.toInt + N2 = 54) ∧ lv_has ls 2 [(1, .int i), (0, .ref aM)] ∧ kAt G A s [(aM, .inr (8, [.ref aNw, .ref rM_kept, .ref rM_isKept, .ref rM_refused, .int M_at, .int M_fault, .ref rM_values, .int M_valueMany, .ref rM_signs, .int M_signMany, .long M_tells, .int M_way, .int M_wish, .long M_moreTick, .long M_moreForce, .int M_runTurns, .long M_runFirst, .long M_runLast, .ref aWs, .long M_peak, .long M_beside, .int M_besideAt])), (aNw, .inl (cNw, 139, .inr (.inl fNw))), (aWs, .inl (cWs, 53, .inr (.inl wf)))] H locs) 2 (fun i wf => []) (fun i wf H locs ls hv => ?_) (fun N2 i wf H locs ls ih2 hv => ?_) (54) 0 fWs _ _ _ ⟨rfl, (by decide), (by decide), (by decide), lv_sub hl [0, 1] rfl, hq⟩
  · skip
    obtain ⟨hrel2, i0, i1, hN, hl, hq⟩ := hv
    omega
  · skip
    obtain ⟨hrel2, i0, i1, hN, hl, hq⟩ := hv
    refine lv_iload_n hx hb dX8_hold_2 rfl (lv_at hl 0 rfl) ?_
    refine lv_bipush (v := 53) hx hb dX8_hold_3 (by decide) ?_
    refine lv_icmp_ge (tgt := 26) hx hb dX8_hold_5 (by decide) (fun c_1 => ?_) (fun c_1 => ?_)
    · skip
      have hx_2 : ((i, wf) : Int32 × (Nat → Int64)) = lpX8_hold_2 fNw (54) 0 fWs := (hrel2.trans ((if_pos c_1))).symm
      obtain ⟨z_3, gz_3⟩ : ∃ z : Int32 × (Nat → Int64), z = (i, wf) := ⟨_, rfl⟩
      have ez_3 : z_3 = lpX8_hold_2 fNw (54) 0 fWs := gz_3.trans hx_2
      have hl : lv_has ls 2 [(1, .int z_3.1), (0, .ref aM)] := by subst gz_3; exact hl
      have hq : kAt G A s [(aM, .inr (8, [.ref aNw, .ref rM_kept, .ref rM_isKept, .ref rM_refused, .int M_at, .int M_fault, .ref rM_values, .int M_valueMany, .ref rM_signs, .int M_signMany, .long M_tells, .int M_way, .int M_wish, .long M_moreTick, .long M_moreForce, .int M_runTurns, .long M_runFirst, .long M_runLast, .ref aWs, .long M_peak, .long M_beside, .int M_besideAt])), (aNw, .inl (cNw, 139, .inr (.inl fNw))), (aWs, .inl (cWs, 53, .inr (.inl z_3.2)))] H locs := by subst gz_3; exact hq
      have hf : (z_3.2 : (Nat → Int64)) = fX8_hold fNw fWs := by
        exact ((congrArg (fun (z_3 : Int32 × (Nat → Int64)) => ((z_3.2) : (Nat → Int64))) ez_3.symm)).symm
      exact kk_ev hx hb hr hlocks hK hq [0, 1, 2] z_3.2 rfl (by decide) dX8_hold_26 hf
    · skip
      have hi0 := kk_nle (k := 53) rfl c_1
      have hi : i.toInt < (53 : Nat) := by omega
      have hi9 : i.toInt < (139 : Nat) := by omega
      refine lv_aload_n hx hb dX8_hold_8 rfl (lv_at hl 1 rfl) ?_
      refine kk_get (ci := 8) (v := .ref aWs) (C := RX8) (T := TX8) (N := 22) hx hb hts iX8 hown hK hq 0 rfl rfl 18 (by decide) lk0_ rfl dX8_hold_9 ?_
      refine lv_iload_n hx hb dX8_hold_12 rfl (lv_at hl 0 rfl) ?_
      refine lv_aload_n hx hb dX8_hold_13 rfl (lv_at hl 1 rfl) ?_
      refine kk_get (ci := 8) (v := .ref aNw) (C := RX8) (T := TX8) (N := 22) hx hb hts iX8 hown hK hq 0 rfl rfl 0 (by decide) lk1_ rfl dX8_hold_14 ?_
      refine lv_iload_n hx hb dX8_hold_17 rfl (lv_at hl 0 rfl) ?_
      refine kk_lald hx hb hK hq 1 0 rfl rfl i.toNatClampNeg (kk_cl i0) (kk_clt i0 hi9) (by decide) dX8_hold_18 ?_
      refine lv_topl (fun w_4 ew_4 => ?_)
      refine kk_last (ws' := [(aM, .inr (8, [.ref aNw, .ref rM_kept, .ref rM_isKept, .ref rM_refused, .int M_at, .int M_fault, .ref rM_values, .int M_valueMany, .ref rM_signs, .int M_signMany, .long M_tells, .int M_way, .int M_wish, .long M_moreTick, .long M_moreForce, .int M_runTurns, .long M_runFirst, .long M_runLast, .ref aWs, .long M_peak, .long M_beside, .int M_besideAt])), (aNw, .inl (cNw, 139, .inr (.inl fNw))), (aWs, .inl (cWs, 53, .inr (.inl (vp_updL wf i.toNatClampNeg w_4))))]) hx hb hK hq 2 1 rfl rfl i.toNatClampNeg (kk_cl i0) (kk_clt i0 hi) (by decide) dX8_hold_19 rfl (fun H locs hq => ?_)
      obtain ⟨fWs_5, efWs_5⟩ : ∃ z : Nat → Int64, z = vp_updL wf i.toNatClampNeg w_4 := ⟨_, rfl⟩
      rw [← efWs_5] at hq
      refine lv_iinc (v := i + 1) (lv' := [(1, .int (i + 1)), (0, .ref aM)]) hx hb dX8_hold_20 hl (k := 0) rfl rfl (by decide) rfl (fun ls hl => ?_)
      refine lv_goto (tgt := 2) hx hb dX8_hold_23 (by decide) ?_
      exact ih2 (i + 1) fWs_5 _ _ _ ⟨(hrel2.trans ((if_neg c_1).trans ((congrArg (fun (w_4 : Int64) => ((let fWs_3 : Nat → Int64 := vp_updL wf i.toNatClampNeg w_4
    lpX8_hold_2 fNw N2 (i + 1) fWs_3) : Int32 × (Nat → Int64))) ew_4.symm).trans ((congrArg (fun (fWs_5 : Nat → Int64) => ((lpX8_hold_2 fNw N2 (i + 1) fWs_5) : Int32 × (Nat → Int64))) efWs_5.symm))))), (by have := kk_inc (x := i) (by omega); omega), (by have := kk_inc (x := i) (by omega); omega), (by have := kk_inc (x := i) (by omega); omega), lv_sub hl [0, 1] rfl, hq⟩
def lpX8_layBack_2 (fWs : Nat → Int64) : Nat → Int32 → (Nat → Int64) → Int32 × (Nat → Int64)
  | 0, _, _ => (0, fun _ => 0)
  | N + 1, i, nf =>
    if 53 ≤ i then (
    (i, nf))
    else (
    let w_2 : Int64 := fWs i.toNatClampNeg
    let fNw_3 : Nat → Int64 := vp_updL nf i.toNatClampNeg w_2
    lpX8_layBack_2 fWs N (i + 1) fNw_3)

def fX8_layBack (fNw : Nat → Int64) (fWs : Nat → Int64) : Int32 × (Nat → Int64) :=
  let z_3 : Int32 × (Nat → Int64) := lpX8_layBack_2 fWs (54) 0 fNw
  (0, z_3.2)

set_option maxHeartbeats 4000000 in
set_option maxRecDepth 100000 in
theorem c_X8_layBack (l : Launch) (G : va_G) (aM aNw aWs rM_kept rM_isKept rM_refused rM_values rM_signs : Nat) (cNw cWs : ClassId) (M_at : Int32) (M_fault : Int32) (M_valueMany : Int32) (M_signMany : Int32) (M_tells : Int64) (M_way : Int32) (M_wish : Int32) (M_moreTick : Int64) (M_moreForce : Int64) (M_runTurns : Int32) (M_runFirst : Int64) (M_runLast : Int64) (M_peak : Int64) (M_beside : Int64) (M_besideAt : Int32) (fNw : Nat → Int64) (fWs : Nat → Int64) : kCv l yX8_layBack (Cond.code yX8_layBack cX8_layBack 2 none :: wsL_law) ({ frames := 0, cells := 0, slots := 0, locals := 0 }) G [(cNw, .long), (cWs, .long)] [.ref aM] [(aM, .inr (8, [.ref aNw, .ref rM_kept, .ref rM_isKept, .ref rM_refused, .int M_at, .int M_fault, .ref rM_values, .int M_valueMany, .ref rM_signs, .int M_signMany, .long M_tells, .int M_way, .int M_wish, .long M_moreTick, .long M_moreForce, .int M_runTurns, .long M_runFirst, .long M_runLast, .ref aWs, .long M_peak, .long M_beside, .int M_besideAt])), (aNw, .inl (cNw, 139, .inr (.inl fNw))), (aWs, .inl (cWs, 53, .inr (.inl fWs)))] (fun (u : Int32 × (Nat → Int64)) => u = fX8_layBack fNw fWs) (fun (u : Int32 × (Nat → Int64)) => [(aM, .inr (8, [.ref aNw, .ref rM_kept, .ref rM_isKept, .ref rM_refused, .int M_at, .int M_fault, .ref rM_values, .int M_valueMany, .ref rM_signs, .int M_signMany, .long M_tells, .int u.1, .int M_wish, .long M_moreTick, .long M_moreForce, .int M_runTurns, .long M_runFirst, .long M_runLast, .ref aWs, .long M_peak, .long M_beside, .int M_besideAt])), (aNw, .inl (cNw, 139, .inr (.inl u.2))), (aWs, .inl (cWs, 53, .inr (.inl fWs)))]) := by
  intro sz
  refine Met.ofW (cc := cX8_layBack) (maxL := 2) (ret := none) (by decide) rfl ?_
  intro p e s m args below meth c s₁ B hml hv
  obtain ⟨rfl, hv⟩ := hv
  obtain ⟨rfl, hK, hq, hA⟩ := kk_begin hv
  have hx := B.exec
  have hb := B.bytes
  have hr := B.returns
  have hts := atoms_spec (ws := (Cond.code yX8_layBack cX8_layBack 2 none :: wsL_law)) B.pre
  have hown : s.vm.findClass RX8 = some m.cls := findClass_of_methodNamed B.named
  have hlocks := B.notSynchronized
  have hsb : ∀ w ∈ wsL_law, w ∈ (Cond.code yX8_layBack cX8_layBack 2 none :: wsL_law) := fun _ h => List.mem_cons_of_mem _ h
  generalize va_A [(aM, .inr (8, [.ref aNw, .ref rM_kept, .ref rM_isKept, .ref rM_refused, .int M_at, .int M_fault, .ref rM_values, .int M_valueMany, .ref rM_signs, .int M_signMany, .long M_tells, .int M_way, .int M_wish, .long M_moreTick, .long M_moreForce, .int M_runTurns, .long M_runFirst, .long M_runLast, .ref aWs, .long M_peak, .long M_beside, .int M_besideAt])), (aNw, .inl (cNw, 139, .inr (.inl fNw))), (aWs, .inl (cWs, 53, .inr (.inl fWs)))] s.heap.size = A at hq hA ⊢
  have iX8 : ∀ w ∈ u_ws RX8 TX8 22, w ∈ (Cond.code yX8_layBack cX8_layBack 2 none :: wsL_law) := fun w h => hsb w (bin_X8 w h)
  have lk0_ := hts _ (hsb _ wd_117)
  have lk1_ := hts _ (hsb _ wd_125)
  have lk2_ := hts _ (hsb _ wd_553)
  have hl := lv_entry ([.ref aM]) (n := 2) (Nat.le_of_ble_eq_true rfl)
  rw [lg_entry_eq]
  generalize (lg_sl ([.ref aM]) ++ List.replicate (2 - (lg_sl ([.ref aM])).length) Slot.unset).toArray = ls at hl ⊢
  have hl : lv_has ls 2 [(0, .ref aM)] := hl
  refine lv_iconst (v := 0) hx hb dX8_layBack_0 (by decide) ?_
  refine lv_istore_n (lv' := [(1, .int 0), (0, .ref aM)]) hx hb dX8_layBack_1 rfl hl (by decide) rfl (fun ls hl => ?_)
  refine kk_loop2 (fun N2 (i : Int32) (nf : Nat → Int64) (H : Heap) (locs : List Loc) (ls : Array Slot) => lpX8_layBack_2 fWs (54) 0 fNw = lpX8_layBack_2 fWs N2 i nf ∧ (0 ≤ i.toInt) ∧ (i.toInt ≤ 53) ∧ (i.toInt + N2 = 54) ∧ lv_has ls 2 [(1, .int i), (0, .ref aM)] ∧ kAt G A s [(aM, .inr (8, [.ref aNw, .ref rM_kept, .ref rM_isKept, .ref rM_refused, .int M_at, .int M_fault, .ref rM_values, .int M_valueMany, .ref rM_signs, .int M_signMany, .long M_tells, .int M_way, .int M_wish, .long M_moreTick, .long M_moreForce, .int M_runTurns, .long M_runFirst, .long M_runLast, .ref aWs, .long M_peak, .long M_beside, .int M_besideAt])), (aNw, .inl (cNw, 139, .inr (.inl nf))), (aWs, .inl (cWs, 53, .inr (.inl fWs)))] H locs) 2 (fun i nf => []) (fun i nf H locs ls hv => ?_) (fun N2 i nf H locs ls ih2 hv => ?_) (54) 0 fNw _ _ _ ⟨rfl, (by decide), (by decide), (by decide), lv_sub hl [0, 1] rfl, hq⟩
  · skip
    obtain ⟨hrel2, i0, i1, hN, hl, hq⟩ := hv
    omega
  · skip
    obtain ⟨hrel2, i0, i1, hN, hl, hq⟩ := hv
    refine lv_iload_n hx hb dX8_layBack_2 rfl (lv_at hl 0 rfl) ?_
    refine lv_bipush (v := 53) hx hb dX8_layBack_3 (by decide) ?_
    refine lv_icmp_ge (tgt := 26) hx hb dX8_layBack_5 (by decide) (fun c_1 => ?_) (fun c_1 => ?_)
    · skip
      have hx_2 : ((i, nf) : Int32 × (Nat → Int64)) = lpX8_layBack_2 fWs (54) 0 fNw := (hrel2.trans ((if_pos c_1))).symm
      obtain ⟨z_3, gz_3⟩ : ∃ z : Int32 × (Nat → Int64), z = (i, nf) := ⟨_, rfl⟩
      have ez_3 : z_3 = lpX8_layBack_2 fWs (54) 0 fNw := gz_3.trans hx_2
      have hl : lv_has ls 2 [(1, .int z_3.1), (0, .ref aM)] := by subst gz_3; exact hl
      have hq : kAt G A s [(aM, .inr (8, [.ref aNw, .ref rM_kept, .ref rM_isKept, .ref rM_refused, .int M_at, .int M_fault, .ref rM_values, .int M_valueMany, .ref rM_signs, .int M_signMany, .long M_tells, .int M_way, .int M_wish, .long M_moreTick, .long M_moreForce, .int M_runTurns, .long M_runFirst, .long M_runLast, .ref aWs, .long M_peak, .long M_beside, .int M_besideAt])), (aNw, .inl (cNw, 139, .inr (.inl z_3.2))), (aWs, .inl (cWs, 53, .inr (.inl fWs)))] H locs := by subst gz_3; exact hq
      refine lv_aload_n hx hb dX8_layBack_26 rfl (lv_at hl 1 rfl) ?_
      refine lv_iconst (v := 0) hx hb dX8_layBack_27 (by decide) ?_
      refine kk_put (ws' := [(aM, .inr (8, [.ref aNw, .ref rM_kept, .ref rM_isKept, .ref rM_refused, .int M_at, .int M_fault, .ref rM_values, .int M_valueMany, .ref rM_signs, .int M_signMany, .long M_tells, .int 0, .int M_wish, .long M_moreTick, .long M_moreForce, .int M_runTurns, .long M_runFirst, .long M_runLast, .ref aWs, .long M_peak, .long M_beside, .int M_besideAt])), (aNw, .inl (cNw, 139, .inr (.inl z_3.2))), (aWs, .inl (cWs, 53, .inr (.inl fWs)))]) (ci := 8) (v := .int 0) (C := RX8) (T := TX8) (N := 22) hx hb hts iX8 tyX8_ok nmX8 hown hK hq 0 rfl rfl 11 (by decide) lk2_ rfl rfl rfl (Nat.le_of_ble_eq_true rfl) dX8_layBack_28 rfl (fun H locs hq => ?_)
      have hf : ((0, z_3.2) : Int32 × (Nat → Int64)) = fX8_layBack fNw fWs := by
        exact ((congrArg (fun (z_3 : Int32 × (Nat → Int64)) => (((0, z_3.2)) : Int32 × (Nat → Int64))) ez_3.symm)).symm
      exact kk_ev hx hb hr hlocks hK hq [0, 1, 2] (0, z_3.2) rfl (by decide) dX8_layBack_31 hf
    · skip
      have hi0 := kk_nle (k := 53) rfl c_1
      have hi : i.toInt < (53 : Nat) := by omega
      have hi9 : i.toInt < (139 : Nat) := by omega
      refine lv_aload_n hx hb dX8_layBack_8 rfl (lv_at hl 1 rfl) ?_
      refine kk_get (ci := 8) (v := .ref aNw) (C := RX8) (T := TX8) (N := 22) hx hb hts iX8 hown hK hq 0 rfl rfl 0 (by decide) lk0_ rfl dX8_layBack_9 ?_
      refine lv_iload_n hx hb dX8_layBack_12 rfl (lv_at hl 0 rfl) ?_
      refine lv_aload_n hx hb dX8_layBack_13 rfl (lv_at hl 1 rfl) ?_
      refine kk_get (ci := 8) (v := .ref aWs) (C := RX8) (T := TX8) (N := 22) hx hb hts iX8 hown hK hq 0 rfl rfl 18 (by decide) lk1_ rfl dX8_layBack_14 ?_
      refine lv_iload_n hx hb dX8_layBack_17 rfl (lv_at hl 0 rfl) ?_
      refine kk_lald hx hb hK hq 2 1 rfl rfl i.toNatClampNeg (kk_cl i0) (kk_clt i0 hi) (by decide) dX8_layBack_18 ?_
      refine lv_topl (fun w_4 ew_4 => ?_)
      refine kk_last (ws' := [(aM, .inr (8, [.ref aNw, .ref rM_kept, .ref rM_isKept, .ref rM_refused, .int M_at, .int M_fault, .ref rM_values, .int M_valueMany, .ref rM_signs, .int M_signMany, .long M_tells, .int M_way, .int M_wish, .long M_moreTick, .long M_moreForce, .int M_runTurns, .long M_runFirst, .long M_runLast, .ref aWs, .long M_peak, .long M_beside, .int M_besideAt])), (aNw, .inl (cNw, 139, .inr (.inl (vp_updL nf i.toNatClampNeg w_4)))), (aWs, .inl (cWs, 53, .inr (.inl fWs)))]) hx hb hK hq 1 0 rfl rfl i.toNatClampNeg (kk_cl i0) (kk_clt i0 hi9) (by decide) dX8_layBack_19 rfl (fun H locs hq => ?_)
      obtain ⟨fNw_5, efNw_5⟩ : ∃ z : Nat → Int64, z = vp_updL nf i.toNatClampNeg w_4 := ⟨_, rfl⟩
      rw [← efNw_5] at hq
      refine lv_iinc (v := i + 1) (lv' := [(1, .int (i + 1)), (0, .ref aM)]) hx hb dX8_layBack_20 hl (k := 0) rfl rfl (by decide) rfl (fun ls hl => ?_)
      refine lv_goto (tgt := 2) hx hb dX8_layBack_23 (by decide) ?_
      exact ih2 (i + 1) fNw_5 _ _ _ ⟨(hrel2.trans ((if_neg c_1).trans ((congrArg (fun (w_4 : Int64) => ((let fNw_3 : Nat → Int64 := vp_updL nf i.toNatClampNeg w_4
    lpX8_layBack_2 fWs N2 (i + 1) fNw_3) : Int32 × (Nat → Int64))) ew_4.symm).trans ((congrArg (fun (fNw_5 : Nat → Int64) => ((lpX8_layBack_2 fWs N2 (i + 1) fNw_5) : Int32 × (Nat → Int64))) efNw_5.symm))))), (by have := kk_inc (x := i) (by omega); omega), (by have := kk_inc (x := i) (by omega); omega), (by have := kk_inc (x := i) (by omega); omega), lv_sub hl [0, 1] rfl, hq⟩
def fX8_turnOf (p1 : Int32) (fNw : Nat → Int64) : Int32 :=
  if p1.toInt64 < fNw 6 then (
    (fNw (13 + ((fNw 6) - 1 - p1.toInt64).toInt.toNat % 40)).toInt32)
  else (
    (-1))

set_option maxHeartbeats 4000000 in
set_option maxRecDepth 100000 in
theorem c_X8_turnOf (l : Launch) (G : va_G) (aM aNw rM_kept rM_isKept rM_refused rM_values rM_signs rM_was : Nat) (cNw : ClassId) (p1 : Int32) (M_at : Int32) (M_fault : Int32) (M_valueMany : Int32) (M_signMany : Int32) (M_tells : Int64) (M_way : Int32) (M_wish : Int32) (M_moreTick : Int64) (M_moreForce : Int64) (M_runTurns : Int32) (M_runFirst : Int64) (M_runLast : Int64) (M_peak : Int64) (M_beside : Int64) (M_besideAt : Int32) (fNw : Nat → Int64) (p0 : 0 ≤ p1.toInt) (p9 : p1.toInt < 1000) (t6 : 0 ≤ (fNw 6).toInt) : kCi l yX8_turnOf (Cond.code yX8_turnOf cX8_turnOf 2 (some .int) :: wsL_law) ({ frames := 0, cells := 0, slots := 0, locals := 0 }) G [(cNw, .long)] [.ref aM, .int p1] [(aM, .inr (8, [.ref aNw, .ref rM_kept, .ref rM_isKept, .ref rM_refused, .int M_at, .int M_fault, .ref rM_values, .int M_valueMany, .ref rM_signs, .int M_signMany, .long M_tells, .int M_way, .int M_wish, .long M_moreTick, .long M_moreForce, .int M_runTurns, .long M_runFirst, .long M_runLast, .ref rM_was, .long M_peak, .long M_beside, .int M_besideAt])), (aNw, .inl (cNw, 139, .inr (.inl fNw)))] (fun (r : Int32) (_ : Unit) => r = fX8_turnOf p1 fNw) (fun (_ : Unit) => [(aM, .inr (8, [.ref aNw, .ref rM_kept, .ref rM_isKept, .ref rM_refused, .int M_at, .int M_fault, .ref rM_values, .int M_valueMany, .ref rM_signs, .int M_signMany, .long M_tells, .int M_way, .int M_wish, .long M_moreTick, .long M_moreForce, .int M_runTurns, .long M_runFirst, .long M_runLast, .ref rM_was, .long M_peak, .long M_beside, .int M_besideAt])), (aNw, .inl (cNw, 139, .inr (.inl fNw)))]) := by
  intro sz
  refine Met.ofW (cc := cX8_turnOf) (maxL := 2) (ret := (some .int)) (by decide) rfl ?_
  intro p e s m args below meth c s₁ B hml hv
  obtain ⟨rfl, hv⟩ := hv
  obtain ⟨rfl, hK, hq, hA⟩ := kk_begin hv
  have hx := B.exec
  have hb := B.bytes
  have hr := B.returns
  have hts := atoms_spec (ws := (Cond.code yX8_turnOf cX8_turnOf 2 (some .int) :: wsL_law)) B.pre
  have hown : s.vm.findClass RX8 = some m.cls := findClass_of_methodNamed B.named
  have hlocks := B.notSynchronized
  have hsb : ∀ w ∈ wsL_law, w ∈ (Cond.code yX8_turnOf cX8_turnOf 2 (some .int) :: wsL_law) := fun _ h => List.mem_cons_of_mem _ h
  generalize va_A [(aM, .inr (8, [.ref aNw, .ref rM_kept, .ref rM_isKept, .ref rM_refused, .int M_at, .int M_fault, .ref rM_values, .int M_valueMany, .ref rM_signs, .int M_signMany, .long M_tells, .int M_way, .int M_wish, .long M_moreTick, .long M_moreForce, .int M_runTurns, .long M_runFirst, .long M_runLast, .ref rM_was, .long M_peak, .long M_beside, .int M_besideAt])), (aNw, .inl (cNw, 139, .inr (.inl fNw)))] s.heap.size = A at hq hA ⊢
  have iX8 : ∀ w ∈ u_ws RX8 TX8 22, w ∈ (Cond.code yX8_turnOf cX8_turnOf 2 (some .int) :: wsL_law) := fun w h => hsb w (bin_X8 w h)
  have lk0_ := hts _ (hsb _ wd_117)
  have lk1_ := hts _ (hsb _ wd_564)
  have hl := lv_entry ([.ref aM, .int p1]) (n := 2) (Nat.le_of_ble_eq_true rfl)
  rw [lg_entry_eq]
  generalize (lg_sl ([.ref aM, .int p1]) ++ List.replicate (2 - (lg_sl ([.ref aM, .int p1])).length) Slot.unset).toArray = ls at hl ⊢
  have hl : lv_has ls 2 [(0, .ref aM), (1, .int p1)] := hl
  refine lv_iload_n hx hb dX8_turnOf_0 rfl (lv_at hl 1 rfl) ?_
  refine lv_i2l hx hb dX8_turnOf_1 rfl ?_
  refine lv_aload_n hx hb dX8_turnOf_2 rfl (lv_at hl 0 rfl) ?_
  refine kk_get (ci := 8) (v := .ref aNw) (C := RX8) (T := TX8) (N := 22) hx hb hts iX8 hown hK hq 0 rfl rfl 0 (by decide) lk0_ rfl dX8_turnOf_3 ?_
  refine lv_bipush (v := 6) hx hb dX8_turnOf_6 (by decide) ?_
  refine kk_lald hx hb hK hq 1 0 rfl rfl 6 rfl (by decide) (by decide) dX8_turnOf_8 ?_
  refine kk_lc_ge (tgt := 42) hx hb dX8_turnOf_9 dX8_turnOf_10 (by decide) (fun c_1 => ?_) (fun c_1 => ?_)
  · skip
    refine lv_iconst (v := -1) hx hb dX8_turnOf_42 (by decide) ?_
    have hf : ((-1) : Int32) = fX8_turnOf p1 fNw := by
      exact ((if_neg c_1)).symm
    exact kk_ei hx hb hr hlocks hK hq [0, 1] () rfl (by decide) dX8_turnOf_43 hf
  · skip
    have ht : 0 ≤ ((fNw 6) - 1 - p1.toInt64).toInt := by have h := c_1; rw [jl_lt, Int32.toInt_toInt64] at h; have h1 := jl_hi (fNw 6); have e1 : (1 : Int64).toInt = 1 := rfl; have h2 : ((fNw 6) - 1).toInt = (fNw 6).toInt - 1 := (by rw [jl_subi (by omega) (by omega), e1]); rw [jl_subi (by rw [Int32.toInt_toInt64]; omega) (by rw [Int32.toInt_toInt64]; omega), Int32.toInt_toInt64]; omega
    refine lv_aload_n hx hb dX8_turnOf_13 rfl (lv_at hl 0 rfl) ?_
    refine kk_get (ci := 8) (v := .ref aNw) (C := RX8) (T := TX8) (N := 22) hx hb hts iX8 hown hK hq 0 rfl rfl 0 (by decide) lk0_ rfl dX8_turnOf_14 ?_
    refine lv_bipush (v := 13) hx hb dX8_turnOf_17 (by decide) ?_
    refine lv_aload_n hx hb dX8_turnOf_19 rfl (lv_at hl 0 rfl) ?_
    refine kk_get (ci := 8) (v := .ref aNw) (C := RX8) (T := TX8) (N := 22) hx hb hts iX8 hown hK hq 0 rfl rfl 0 (by decide) lk0_ rfl dX8_turnOf_20 ?_
    refine lv_bipush (v := 6) hx hb dX8_turnOf_23 (by decide) ?_
    refine kk_lald hx hb hK hq 1 0 rfl rfl 6 rfl (by decide) (by decide) dX8_turnOf_25 ?_
    refine lv_lconst (v := 1) hx hb dX8_turnOf_26 (by decide) ?_
    refine lv_lsub hx hb dX8_turnOf_27 ?_
    refine lv_iload_n hx hb dX8_turnOf_28 rfl (lv_at hl 1 rfl) ?_
    refine lv_i2l hx hb dX8_turnOf_29 rfl ?_
    refine lv_lsub hx hb dX8_turnOf_30 ?_
    refine lv_ldc2 hx hb hown lk1_ dX8_turnOf_31 ?_
    refine lv_lrem hx hb dX8_turnOf_34 (by decide) ?_
    refine lv_l2i hx hb dX8_turnOf_35 rfl ?_
    refine lv_iadd hx hb dX8_turnOf_36 ?_
    refine kk_lald hx hb hK hq 1 0 rfl rfl (13 + ((fNw 6) - 1 - p1.toInt64).toInt.toNat % 40) (ix_40 ht).1 (ix_40 ht).2 (by decide) dX8_turnOf_37 ?_
    refine lv_l2i hx hb dX8_turnOf_38 rfl ?_
    refine lv_goto (tgt := 43) hx hb dX8_turnOf_39 (by decide) ?_
    have hf : ((fNw (13 + ((fNw 6) - 1 - p1.toInt64).toInt.toNat % 40)).toInt32 : Int32) = fX8_turnOf p1 fNw := by
      exact ((if_pos c_1)).symm
    exact kk_ei hx hb hr hlocks hK hq [0, 1] () rfl (by decide) dX8_turnOf_43 hf
theorem hd_X8_turnOf : yX8_turnOf.cls = RX8 ∧ yX8_turnOf.cls ≠ "java/lang/invoke/MethodHandle" ∧ yX8_turnOf.cls ≠ "java/lang/invoke/VarHandle" ∧ (parseMethodDescriptor yX8_turnOf.desc).map (fun d => d.parameters.length) = some 1 := by decide +kernel
def fX8_turn (p1 : Int32) (fNw : Nat → Int64) (fRf : Nat → Int32) : Int32 × (Nat → Int32) :=
  let r_2 : Int32 := fX8_in p1.toInt64 0 39
  if r_2 = 0 then (
    let r_6 : Int32 := (fX8_bad (-2) fRf).1
    let u_5 : Nat → Int32 := (fX8_bad (-2) fRf).2
    (r_6, u_5))
  else (
    let r_9 : Int32 := fX8_turnOf p1 fNw
    (r_9, fRf))

set_option maxHeartbeats 4000000 in
set_option maxRecDepth 100000 in
theorem c_X8_turn (l : Launch) (G : va_G) (aM aNw aRf rM_kept rM_isKept rM_values rM_signs rM_was : Nat) (cNw cRf : ClassId) (p1 : Int32) (M_at : Int32) (M_fault : Int32) (M_valueMany : Int32) (M_signMany : Int32) (M_tells : Int64) (M_way : Int32) (M_wish : Int32) (M_moreTick : Int64) (M_moreForce : Int64) (M_runTurns : Int32) (M_runFirst : Int64) (M_runLast : Int64) (M_peak : Int64) (M_beside : Int64) (M_besideAt : Int32) (fNw : Nat → Int64) (fRf : Nat → Int32) (t6 : 0 ≤ (fNw 6).toInt) : kCi l yX8_turn (Cond.code yX8_turn cX8_turn 2 (some .int) :: wsL_law) ({ frames := 1, cells := 0, slots := 0, locals := 25 }) G [(cNw, .long), (cRf, .int)] [.ref aM, .int p1] [(aM, .inr (8, [.ref aNw, .ref rM_kept, .ref rM_isKept, .ref aRf, .int M_at, .int M_fault, .ref rM_values, .int M_valueMany, .ref rM_signs, .int M_signMany, .long M_tells, .int M_way, .int M_wish, .long M_moreTick, .long M_moreForce, .int M_runTurns, .long M_runFirst, .long M_runLast, .ref rM_was, .long M_peak, .long M_beside, .int M_besideAt])), (aNw, .inl (cNw, 139, .inr (.inl fNw))), (aRf, .inl (cRf, 3, .inl fRf))] (fun (r : Int32) (u : Nat → Int32) => r = (fX8_turn p1 fNw fRf).1 ∧ u = (fX8_turn p1 fNw fRf).2) (fun (u : Nat → Int32) => [(aM, .inr (8, [.ref aNw, .ref rM_kept, .ref rM_isKept, .ref aRf, .int M_at, .int M_fault, .ref rM_values, .int M_valueMany, .ref rM_signs, .int M_signMany, .long M_tells, .int M_way, .int M_wish, .long M_moreTick, .long M_moreForce, .int M_runTurns, .long M_runFirst, .long M_runLast, .ref rM_was, .long M_peak, .long M_beside, .int M_besideAt])), (aNw, .inl (cNw, 139, .inr (.inl fNw))), (aRf, .inl (cRf, 3, .inl u))]) := by
  intro sz
  refine Met.ofW (cc := cX8_turn) (maxL := 2) (ret := (some .int)) (by decide) rfl ?_
  intro p e s m args below meth c s₁ B hml hv
  obtain ⟨rfl, hv⟩ := hv
  obtain ⟨rfl, hK, hq, hA⟩ := kk_begin hv
  have hx := B.exec
  have hb := B.bytes
  have hr := B.returns
  have hts := atoms_spec (ws := (Cond.code yX8_turn cX8_turn 2 (some .int) :: wsL_law)) B.pre
  have hown : s.vm.findClass RX8 = some m.cls := findClass_of_methodNamed B.named
  have hlocks := B.notSynchronized
  have hsb : ∀ w ∈ wsL_law, w ∈ (Cond.code yX8_turn cX8_turn 2 (some .int) :: wsL_law) := fun _ h => List.mem_cons_of_mem _ h
  generalize va_A [(aM, .inr (8, [.ref aNw, .ref rM_kept, .ref rM_isKept, .ref aRf, .int M_at, .int M_fault, .ref rM_values, .int M_valueMany, .ref rM_signs, .int M_signMany, .long M_tells, .int M_way, .int M_wish, .long M_moreTick, .long M_moreForce, .int M_runTurns, .long M_runFirst, .long M_runLast, .ref rM_was, .long M_peak, .long M_beside, .int M_besideAt])), (aNw, .inl (cNw, 139, .inr (.inl fNw))), (aRf, .inl (cRf, 3, .inl fRf))] s.heap.size = A at hq hA ⊢
  have lk0_ := hts _ (hsb _ wd_603)
  have hl := lv_entry ([.ref aM, .int p1]) (n := 2) (Nat.le_of_ble_eq_true rfl)
  rw [lg_entry_eq]
  generalize (lg_sl ([.ref aM, .int p1]) ++ List.replicate (2 - (lg_sl ([.ref aM, .int p1])).length) Slot.unset).toArray = ls at hl ⊢
  have hl : lv_has ls 2 [(0, .ref aM), (1, .int p1)] := hl
  refine lv_iload_n hx hb dX8_turn_0 rfl (lv_at hl 1 rfl) ?_
  refine lv_i2l hx hb dX8_turn_1 rfl ?_
  refine lv_lconst (v := 0) hx hb dX8_turn_2 (by decide) ?_
  refine lv_ldc2 hx hb hown lk0_ dX8_turn_3 ?_
  refine kk_Si (As := [.long p1.toInt64, .long 0, .long 39]) (rest := []) (wr := [(aM, .inr (8, [.ref aNw, .ref rM_kept, .ref rM_isKept, .ref aRf, .int M_at, .int M_fault, .ref rM_values, .int M_valueMany, .ref rM_signs, .int M_signMany, .long M_tells, .int M_way, .int M_wish, .long M_moreTick, .long M_moreForce, .int M_runTurns, .long M_runFirst, .long M_runLast, .ref rM_was, .long M_peak, .long M_beside, .int M_besideAt])), (aNw, .inl (cNw, 139, .inr (.inl fNw))), (aRf, .inl (cRf, 3, .inl fRf))]) ⟨hx, hb, hml, hown, hts⟩ (c_X8_in l G p1.toInt64 0 39) (kk_cwS 3 hts hsb wd_156 wd_157 wd_5 wd_158 rfl rfl hd_X8_in ⟨Nat.le_of_ble_eq_true rfl, Nat.le_of_ble_eq_true rfl⟩) hA hK hq [] [0, 1, 2] [] rfl rfl rfl (by decide) (by decide) (by decide) rfl hl.1 rfl (Nat.le_of_ble_eq_true rfl) dX8_turn_6 ⟨Nat.zero_le _, Nat.zero_le _⟩ (fun r_2 u_1 H locs h_3 hq => ?_)
  obtain ⟨er_2, zr_2⟩ := h_3
  have hq : kAt G A s [(aM, .inr (8, [.ref aNw, .ref rM_kept, .ref rM_isKept, .ref aRf, .int M_at, .int M_fault, .ref rM_values, .int M_valueMany, .ref rM_signs, .int M_signMany, .long M_tells, .int M_way, .int M_wish, .long M_moreTick, .long M_moreForce, .int M_runTurns, .long M_runFirst, .long M_runLast, .ref rM_was, .long M_peak, .long M_beside, .int M_besideAt])), (aNw, .inl (cNw, 139, .inr (.inl fNw))), (aRf, .inl (cRf, 3, .inl fRf))] H locs := hq
  have hrw := er_2
  refine lv_if_eq (tgt := 20) hx hb dX8_turn_9 (by decide) (fun c_4 => ?_) (fun c_4 => ?_)
  · skip
    refine lv_aload_n hx hb dX8_turn_20 rfl (lv_at hl 0 rfl) ?_
    refine lv_bipush (v := -2) hx hb dX8_turn_21 (by decide) ?_
    refine kk_Vi (As := [.int (-2)]) (rest := []) (wr := [(aNw, .inl (cNw, 139, .inr (.inl fNw)))]) ⟨hx, hb, hml, hown, hts⟩ (c_X8_bad l G aM aRf aNw rM_kept rM_isKept rM_values rM_signs rM_was cRf (-2) M_at M_fault M_valueMany M_signMany M_tells M_way M_wish M_moreTick M_moreForce M_runTurns M_runFirst M_runLast M_peak M_beside M_besideAt fRf) (kk_cwV 1 hts hsb wd_159 wd_160 wd_161 wd_5 wd_162 rfl rfl hd_X8_bad ⟨Nat.le_of_ble_eq_true rfl, Nat.le_of_ble_eq_true rfl⟩) hA hK hq [0, 2] [1] [1] rfl rfl rfl (by decide) (by decide) (by decide) 0 8 rfl rfl rfl rfl hl.1 rfl (Nat.le_of_ble_eq_true rfl) dX8_turn_23 ⟨Nat.zero_le _, Nat.zero_le _⟩ (fun r_6 u_5 H locs h_7 hq => ?_)
    obtain ⟨er_6, eu_5⟩ := h_7
    have hq : kAt G A s [(aNw, .inl (cNw, 139, .inr (.inl fNw))), (aM, .inr (8, [.ref aNw, .ref rM_kept, .ref rM_isKept, .ref aRf, .int M_at, .int M_fault, .ref rM_values, .int M_valueMany, .ref rM_signs, .int M_signMany, .long M_tells, .int M_way, .int M_wish, .long M_moreTick, .long M_moreForce, .int M_runTurns, .long M_runFirst, .long M_runLast, .ref rM_was, .long M_peak, .long M_beside, .int M_besideAt])), (aRf, .inl (cRf, 3, .inl u_5))] H locs := hq
    have hf : ((r_6, u_5) : Int32 × (Nat → Int32)) = fX8_turn p1 fNw fRf := by
      exact ((congrArg (fun (r_2 : Int32) => ((if r_2 = 0 then (
    let r_6 : Int32 := (fX8_bad (-2) fRf).1
    let u_5 : Nat → Int32 := (fX8_bad (-2) fRf).2
    (r_6, u_5))
  else (
    let r_9 : Int32 := fX8_turnOf p1 fNw
    (r_9, fRf))) : Int32 × (Nat → Int32))) er_2.symm).trans ((if_pos c_4).trans ((congrArg (fun (r_6 : Int32) => ((let u_5 : Nat → Int32 := (fX8_bad (-2) fRf).2
  (r_6, u_5)) : Int32 × (Nat → Int32))) er_6.symm).trans ((congrArg (fun (u_5 : Nat → Int32) => (((r_6, u_5)) : Int32 × (Nat → Int32))) eu_5.symm))))).symm
    have hf1 := congrArg Prod.fst hf
    have hf2 := congrArg Prod.snd hf
    exact kk_ei hx hb hr hlocks hK hq [1, 0, 2] u_5 rfl (by decide) dX8_turn_26 ⟨hf1, hf2⟩
  · skip
    have hw := in_i (hrw ▸ c_4)
    have w0 : 0 ≤ p1.toInt := hw.1
    have w1 : p1.toInt ≤ 39 := hw.2
    refine lv_aload_n hx hb dX8_turn_12 rfl (lv_at hl 0 rfl) ?_
    refine lv_iload_n hx hb dX8_turn_13 rfl (lv_at hl 1 rfl) ?_
    refine kk_Vi (As := [.int p1]) (rest := []) (wr := [(aRf, .inl (cRf, 3, .inl fRf))]) ⟨hx, hb, hml, hown, hts⟩ (c_X8_turnOf l G aM aNw rM_kept rM_isKept aRf rM_values rM_signs rM_was cNw p1 M_at M_fault M_valueMany M_signMany M_tells M_way M_wish M_moreTick M_moreForce M_runTurns M_runFirst M_runLast M_peak M_beside M_besideAt fNw w0 (by omega) t6) (kk_cwV 1 hts hsb wd_604 wd_605 wd_606 wd_5 wd_607 rfl rfl hd_X8_turnOf ⟨Nat.le_of_ble_eq_true rfl, Nat.le_of_ble_eq_true rfl⟩) hA hK hq [0, 1] [2] [0] rfl rfl rfl (by decide) (by decide) (by decide) 0 8 rfl rfl rfl rfl hl.1 rfl (Nat.le_of_ble_eq_true rfl) dX8_turn_14 ⟨Nat.zero_le _, Nat.zero_le _⟩ (fun r_9 u_8 H locs h_10 hq => ?_)
    have er_9 := h_10
    have hq : kAt G A s [(aRf, .inl (cRf, 3, .inl fRf)), (aM, .inr (8, [.ref aNw, .ref rM_kept, .ref rM_isKept, .ref aRf, .int M_at, .int M_fault, .ref rM_values, .int M_valueMany, .ref rM_signs, .int M_signMany, .long M_tells, .int M_way, .int M_wish, .long M_moreTick, .long M_moreForce, .int M_runTurns, .long M_runFirst, .long M_runLast, .ref rM_was, .long M_peak, .long M_beside, .int M_besideAt])), (aNw, .inl (cNw, 139, .inr (.inl fNw)))] H locs := hq
    refine lv_goto (tgt := 26) hx hb dX8_turn_17 (by decide) ?_
    have hf : ((r_9, fRf) : Int32 × (Nat → Int32)) = fX8_turn p1 fNw fRf := by
      exact ((congrArg (fun (r_2 : Int32) => ((if r_2 = 0 then (
    let r_6 : Int32 := (fX8_bad (-2) fRf).1
    let u_5 : Nat → Int32 := (fX8_bad (-2) fRf).2
    (r_6, u_5))
  else (
    let r_9 : Int32 := fX8_turnOf p1 fNw
    (r_9, fRf))) : Int32 × (Nat → Int32))) er_2.symm).trans ((if_neg c_4).trans ((congrArg (fun (r_9 : Int32) => (((r_9, fRf)) : Int32 × (Nat → Int32))) er_9.symm)))).symm
    have hf1 := congrArg Prod.fst hf
    have hf2 := congrArg Prod.snd hf
    exact kk_ei hx hb hr hlocks hK hq [1, 2, 0] fRf rfl (by decide) dX8_turn_26 ⟨hf1, hf2⟩
def fX8_told (p1 : Int32) (fNw : Nat → Int64) (fRf : Nat → Int32) : Int32 × (Nat → Int32) :=
  let r_2 : Int32 := fX8_in p1.toInt64 0 11
  if r_2 = 0 then (
    let r_6 : Int32 := (fX8_bad (-10000000) fRf).1
    let u_5 : Nat → Int32 := (fX8_bad (-10000000) fRf).2
    (r_6, u_5))
  else (
    ((fNw p1.toNatClampNeg).toInt32, fRf))

set_option maxHeartbeats 4000000 in
set_option maxRecDepth 100000 in
theorem c_X8_told (l : Launch) (G : va_G) (aM aNw aRf rM_kept rM_isKept rM_values rM_signs rM_was : Nat) (cNw cRf : ClassId) (p1 : Int32) (M_at : Int32) (M_fault : Int32) (M_valueMany : Int32) (M_signMany : Int32) (M_tells : Int64) (M_way : Int32) (M_wish : Int32) (M_moreTick : Int64) (M_moreForce : Int64) (M_runTurns : Int32) (M_runFirst : Int64) (M_runLast : Int64) (M_peak : Int64) (M_beside : Int64) (M_besideAt : Int32) (fNw : Nat → Int64) (fRf : Nat → Int32) : kCi l yX8_told (Cond.code yX8_told cX8_told 2 (some .int) :: wsL_law) ({ frames := 1, cells := 0, slots := 0, locals := 25 }) G [(cNw, .long), (cRf, .int)] [.ref aM, .int p1] [(aM, .inr (8, [.ref aNw, .ref rM_kept, .ref rM_isKept, .ref aRf, .int M_at, .int M_fault, .ref rM_values, .int M_valueMany, .ref rM_signs, .int M_signMany, .long M_tells, .int M_way, .int M_wish, .long M_moreTick, .long M_moreForce, .int M_runTurns, .long M_runFirst, .long M_runLast, .ref rM_was, .long M_peak, .long M_beside, .int M_besideAt])), (aNw, .inl (cNw, 139, .inr (.inl fNw))), (aRf, .inl (cRf, 3, .inl fRf))] (fun (r : Int32) (u : Nat → Int32) => r = (fX8_told p1 fNw fRf).1 ∧ u = (fX8_told p1 fNw fRf).2) (fun (u : Nat → Int32) => [(aM, .inr (8, [.ref aNw, .ref rM_kept, .ref rM_isKept, .ref aRf, .int M_at, .int M_fault, .ref rM_values, .int M_valueMany, .ref rM_signs, .int M_signMany, .long M_tells, .int M_way, .int M_wish, .long M_moreTick, .long M_moreForce, .int M_runTurns, .long M_runFirst, .long M_runLast, .ref rM_was, .long M_peak, .long M_beside, .int M_besideAt])), (aNw, .inl (cNw, 139, .inr (.inl fNw))), (aRf, .inl (cRf, 3, .inl u))]) := by
  intro sz
  refine Met.ofW (cc := cX8_told) (maxL := 2) (ret := (some .int)) (by decide) rfl ?_
  intro p e s m args below meth c s₁ B hml hv
  obtain ⟨rfl, hv⟩ := hv
  obtain ⟨rfl, hK, hq, hA⟩ := kk_begin hv
  have hx := B.exec
  have hb := B.bytes
  have hr := B.returns
  have hts := atoms_spec (ws := (Cond.code yX8_told cX8_told 2 (some .int) :: wsL_law)) B.pre
  have hown : s.vm.findClass RX8 = some m.cls := findClass_of_methodNamed B.named
  have hlocks := B.notSynchronized
  have hsb : ∀ w ∈ wsL_law, w ∈ (Cond.code yX8_told cX8_told 2 (some .int) :: wsL_law) := fun _ h => List.mem_cons_of_mem _ h
  generalize va_A [(aM, .inr (8, [.ref aNw, .ref rM_kept, .ref rM_isKept, .ref aRf, .int M_at, .int M_fault, .ref rM_values, .int M_valueMany, .ref rM_signs, .int M_signMany, .long M_tells, .int M_way, .int M_wish, .long M_moreTick, .long M_moreForce, .int M_runTurns, .long M_runFirst, .long M_runLast, .ref rM_was, .long M_peak, .long M_beside, .int M_besideAt])), (aNw, .inl (cNw, 139, .inr (.inl fNw))), (aRf, .inl (cRf, 3, .inl fRf))] s.heap.size = A at hq hA ⊢
  have iX8 : ∀ w ∈ u_ws RX8 TX8 22, w ∈ (Cond.code yX8_told cX8_told 2 (some .int) :: wsL_law) := fun w h => hsb w (bin_X8 w h)
  have lk0_ := hts _ (hsb _ wd_589)
  have lk1_ := hts _ (hsb _ wd_590)
  have lk2_ := hts _ (hsb _ wd_117)
  have hl := lv_entry ([.ref aM, .int p1]) (n := 2) (Nat.le_of_ble_eq_true rfl)
  rw [lg_entry_eq]
  generalize (lg_sl ([.ref aM, .int p1]) ++ List.replicate (2 - (lg_sl ([.ref aM, .int p1])).length) Slot.unset).toArray = ls at hl ⊢
  have hl : lv_has ls 2 [(0, .ref aM), (1, .int p1)] := hl
  refine lv_iload_n hx hb dX8_told_0 rfl (lv_at hl 1 rfl) ?_
  refine lv_i2l hx hb dX8_told_1 rfl ?_
  refine lv_lconst (v := 0) hx hb dX8_told_2 (by decide) ?_
  refine lv_ldc2 hx hb hown lk0_ dX8_told_3 ?_
  refine kk_Si (As := [.long p1.toInt64, .long 0, .long 11]) (rest := []) (wr := [(aM, .inr (8, [.ref aNw, .ref rM_kept, .ref rM_isKept, .ref aRf, .int M_at, .int M_fault, .ref rM_values, .int M_valueMany, .ref rM_signs, .int M_signMany, .long M_tells, .int M_way, .int M_wish, .long M_moreTick, .long M_moreForce, .int M_runTurns, .long M_runFirst, .long M_runLast, .ref rM_was, .long M_peak, .long M_beside, .int M_besideAt])), (aNw, .inl (cNw, 139, .inr (.inl fNw))), (aRf, .inl (cRf, 3, .inl fRf))]) ⟨hx, hb, hml, hown, hts⟩ (c_X8_in l G p1.toInt64 0 11) (kk_cwS 3 hts hsb wd_156 wd_157 wd_5 wd_158 rfl rfl hd_X8_in ⟨Nat.le_of_ble_eq_true rfl, Nat.le_of_ble_eq_true rfl⟩) hA hK hq [] [0, 1, 2] [] rfl rfl rfl (by decide) (by decide) (by decide) rfl hl.1 rfl (Nat.le_of_ble_eq_true rfl) dX8_told_6 ⟨Nat.zero_le _, Nat.zero_le _⟩ (fun r_2 u_1 H locs h_3 hq => ?_)
  obtain ⟨er_2, zr_2⟩ := h_3
  have hq : kAt G A s [(aM, .inr (8, [.ref aNw, .ref rM_kept, .ref rM_isKept, .ref aRf, .int M_at, .int M_fault, .ref rM_values, .int M_valueMany, .ref rM_signs, .int M_signMany, .long M_tells, .int M_way, .int M_wish, .long M_moreTick, .long M_moreForce, .int M_runTurns, .long M_runFirst, .long M_runLast, .ref rM_was, .long M_peak, .long M_beside, .int M_besideAt])), (aNw, .inl (cNw, 139, .inr (.inl fNw))), (aRf, .inl (cRf, 3, .inl fRf))] H locs := hq
  have hrw := er_2
  refine lv_if_eq (tgt := 22) hx hb dX8_told_9 (by decide) (fun c_4 => ?_) (fun c_4 => ?_)
  · skip
    refine lv_aload_n hx hb dX8_told_22 rfl (lv_at hl 0 rfl) ?_
    refine lv_ldc hx hb hown lk1_ dX8_told_23 ?_
    refine kk_Vi (As := [.int (-10000000)]) (rest := []) (wr := [(aNw, .inl (cNw, 139, .inr (.inl fNw)))]) ⟨hx, hb, hml, hown, hts⟩ (c_X8_bad l G aM aRf aNw rM_kept rM_isKept rM_values rM_signs rM_was cRf (-10000000) M_at M_fault M_valueMany M_signMany M_tells M_way M_wish M_moreTick M_moreForce M_runTurns M_runFirst M_runLast M_peak M_beside M_besideAt fRf) (kk_cwV 1 hts hsb wd_159 wd_160 wd_161 wd_5 wd_162 rfl rfl hd_X8_bad ⟨Nat.le_of_ble_eq_true rfl, Nat.le_of_ble_eq_true rfl⟩) hA hK hq [0, 2] [1] [1] rfl rfl rfl (by decide) (by decide) (by decide) 0 8 rfl rfl rfl rfl hl.1 rfl (Nat.le_of_ble_eq_true rfl) dX8_told_25 ⟨Nat.zero_le _, Nat.zero_le _⟩ (fun r_6 u_5 H locs h_7 hq => ?_)
    obtain ⟨er_6, eu_5⟩ := h_7
    have hq : kAt G A s [(aNw, .inl (cNw, 139, .inr (.inl fNw))), (aM, .inr (8, [.ref aNw, .ref rM_kept, .ref rM_isKept, .ref aRf, .int M_at, .int M_fault, .ref rM_values, .int M_valueMany, .ref rM_signs, .int M_signMany, .long M_tells, .int M_way, .int M_wish, .long M_moreTick, .long M_moreForce, .int M_runTurns, .long M_runFirst, .long M_runLast, .ref rM_was, .long M_peak, .long M_beside, .int M_besideAt])), (aRf, .inl (cRf, 3, .inl u_5))] H locs := hq
    have hf : ((r_6, u_5) : Int32 × (Nat → Int32)) = fX8_told p1 fNw fRf := by
      exact ((congrArg (fun (r_2 : Int32) => ((if r_2 = 0 then (
    let r_6 : Int32 := (fX8_bad (-10000000) fRf).1
    let u_5 : Nat → Int32 := (fX8_bad (-10000000) fRf).2
    (r_6, u_5))
  else (
    ((fNw p1.toNatClampNeg).toInt32, fRf))) : Int32 × (Nat → Int32))) er_2.symm).trans ((if_pos c_4).trans ((congrArg (fun (r_6 : Int32) => ((let u_5 : Nat → Int32 := (fX8_bad (-10000000) fRf).2
  (r_6, u_5)) : Int32 × (Nat → Int32))) er_6.symm).trans ((congrArg (fun (u_5 : Nat → Int32) => (((r_6, u_5)) : Int32 × (Nat → Int32))) eu_5.symm))))).symm
    have hf1 := congrArg Prod.fst hf
    have hf2 := congrArg Prod.snd hf
    exact kk_ei hx hb hr hlocks hK hq [1, 0, 2] u_5 rfl (by decide) dX8_told_28 ⟨hf1, hf2⟩
  · skip
    have hw := in_i (hrw ▸ c_4)
    have w0 : 0 ≤ p1.toInt := hw.1
    have w1 : p1.toInt ≤ 11 := hw.2
    have w2 : p1.toInt < (139 : Nat) := by omega
    refine lv_aload_n hx hb dX8_told_12 rfl (lv_at hl 0 rfl) ?_
    refine kk_get (ci := 8) (v := .ref aNw) (C := RX8) (T := TX8) (N := 22) hx hb hts iX8 hown hK hq 0 rfl rfl 0 (by decide) lk2_ rfl dX8_told_13 ?_
    refine lv_iload_n hx hb dX8_told_16 rfl (lv_at hl 1 rfl) ?_
    refine kk_lald hx hb hK hq 1 0 rfl rfl p1.toNatClampNeg (kk_cl w0) (kk_clt w0 w2) (by decide) dX8_told_17 ?_
    refine lv_l2i hx hb dX8_told_18 rfl ?_
    refine lv_goto (tgt := 28) hx hb dX8_told_19 (by decide) ?_
    have hf : (((fNw p1.toNatClampNeg).toInt32, fRf) : Int32 × (Nat → Int32)) = fX8_told p1 fNw fRf := by
      exact ((congrArg (fun (r_2 : Int32) => ((if r_2 = 0 then (
    let r_6 : Int32 := (fX8_bad (-10000000) fRf).1
    let u_5 : Nat → Int32 := (fX8_bad (-10000000) fRf).2
    (r_6, u_5))
  else (
    ((fNw p1.toNatClampNeg).toInt32, fRf))) : Int32 × (Nat → Int32))) er_2.symm).trans ((if_neg c_4))).symm
    have hf1 := congrArg Prod.fst hf
    have hf2 := congrArg Prod.snd hf
    exact kk_ei hx hb hr hlocks hK hq [0, 1, 2] fRf rfl (by decide) dX8_told_28 ⟨hf1, hf2⟩
def fX8_status (p1 : Int32) (fNw : Nat → Int64) (fRf : Nat → Int32) : Int32 × (Nat → Int32) :=
  let r_2 : Int32 := fX8_in p1.toInt64 0 2
  if r_2 = 0 then (
    if p1 = 3 then (
      let r_10 : Int32 := fX8_pushMany fNw
      (r_10, fRf))
    else (
      let r_7 : Int32 := (fX8_bad (-1) fRf).1
      let u_6 : Nat → Int32 := (fX8_bad (-1) fRf).2
      (r_7, u_6)))
  else (
    (fRf p1.toNatClampNeg, fRf))

set_option maxHeartbeats 4000000 in
set_option maxRecDepth 100000 in
theorem c_X8_status (l : Launch) (G : va_G) (aM aNw aRf rM_kept rM_isKept rM_values rM_signs rM_was : Nat) (cNw cRf : ClassId) (p1 : Int32) (M_at : Int32) (M_fault : Int32) (M_valueMany : Int32) (M_signMany : Int32) (M_tells : Int64) (M_way : Int32) (M_wish : Int32) (M_moreTick : Int64) (M_moreForce : Int64) (M_runTurns : Int32) (M_runFirst : Int64) (M_runLast : Int64) (M_peak : Int64) (M_beside : Int64) (M_besideAt : Int32) (fNw : Nat → Int64) (fRf : Nat → Int32) : kCi l yX8_status (Cond.code yX8_status cX8_status 2 (some .int) :: wsL_law) ({ frames := 1, cells := 0, slots := 0, locals := 25 }) G [(cNw, .long), (cRf, .int)] [.ref aM, .int p1] [(aM, .inr (8, [.ref aNw, .ref rM_kept, .ref rM_isKept, .ref aRf, .int M_at, .int M_fault, .ref rM_values, .int M_valueMany, .ref rM_signs, .int M_signMany, .long M_tells, .int M_way, .int M_wish, .long M_moreTick, .long M_moreForce, .int M_runTurns, .long M_runFirst, .long M_runLast, .ref rM_was, .long M_peak, .long M_beside, .int M_besideAt])), (aNw, .inl (cNw, 139, .inr (.inl fNw))), (aRf, .inl (cRf, 3, .inl fRf))] (fun (r : Int32) (u : Nat → Int32) => r = (fX8_status p1 fNw fRf).1 ∧ u = (fX8_status p1 fNw fRf).2) (fun (u : Nat → Int32) => [(aM, .inr (8, [.ref aNw, .ref rM_kept, .ref rM_isKept, .ref aRf, .int M_at, .int M_fault, .ref rM_values, .int M_valueMany, .ref rM_signs, .int M_signMany, .long M_tells, .int M_way, .int M_wish, .long M_moreTick, .long M_moreForce, .int M_runTurns, .long M_runFirst, .long M_runLast, .ref rM_was, .long M_peak, .long M_beside, .int M_besideAt])), (aNw, .inl (cNw, 139, .inr (.inl fNw))), (aRf, .inl (cRf, 3, .inl u))]) := by
  intro sz
  refine Met.ofW (cc := cX8_status) (maxL := 2) (ret := (some .int)) (by decide) rfl ?_
  intro p e s m args below meth c s₁ B hml hv
  obtain ⟨rfl, hv⟩ := hv
  obtain ⟨rfl, hK, hq, hA⟩ := kk_begin hv
  have hx := B.exec
  have hb := B.bytes
  have hr := B.returns
  have hts := atoms_spec (ws := (Cond.code yX8_status cX8_status 2 (some .int) :: wsL_law)) B.pre
  have hown : s.vm.findClass RX8 = some m.cls := findClass_of_methodNamed B.named
  have hlocks := B.notSynchronized
  have hsb : ∀ w ∈ wsL_law, w ∈ (Cond.code yX8_status cX8_status 2 (some .int) :: wsL_law) := fun _ h => List.mem_cons_of_mem _ h
  generalize va_A [(aM, .inr (8, [.ref aNw, .ref rM_kept, .ref rM_isKept, .ref aRf, .int M_at, .int M_fault, .ref rM_values, .int M_valueMany, .ref rM_signs, .int M_signMany, .long M_tells, .int M_way, .int M_wish, .long M_moreTick, .long M_moreForce, .int M_runTurns, .long M_runFirst, .long M_runLast, .ref rM_was, .long M_peak, .long M_beside, .int M_besideAt])), (aNw, .inl (cNw, 139, .inr (.inl fNw))), (aRf, .inl (cRf, 3, .inl fRf))] s.heap.size = A at hq hA ⊢
  have iX8 : ∀ w ∈ u_ws RX8 TX8 22, w ∈ (Cond.code yX8_status cX8_status 2 (some .int) :: wsL_law) := fun w h => hsb w (bin_X8 w h)
  have lk0_ := hts _ (hsb _ wd_127)
  have lk1_ := hts _ (hsb _ wd_120)
  have hl := lv_entry ([.ref aM, .int p1]) (n := 2) (Nat.le_of_ble_eq_true rfl)
  rw [lg_entry_eq]
  generalize (lg_sl ([.ref aM, .int p1]) ++ List.replicate (2 - (lg_sl ([.ref aM, .int p1])).length) Slot.unset).toArray = ls at hl ⊢
  have hl : lv_has ls 2 [(0, .ref aM), (1, .int p1)] := hl
  refine lv_iload_n hx hb dX8_status_0 rfl (lv_at hl 1 rfl) ?_
  refine lv_i2l hx hb dX8_status_1 rfl ?_
  refine lv_lconst (v := 0) hx hb dX8_status_2 (by decide) ?_
  refine lv_ldc2 hx hb hown lk0_ dX8_status_3 ?_
  refine kk_Si (As := [.long p1.toInt64, .long 0, .long 2]) (rest := []) (wr := [(aM, .inr (8, [.ref aNw, .ref rM_kept, .ref rM_isKept, .ref aRf, .int M_at, .int M_fault, .ref rM_values, .int M_valueMany, .ref rM_signs, .int M_signMany, .long M_tells, .int M_way, .int M_wish, .long M_moreTick, .long M_moreForce, .int M_runTurns, .long M_runFirst, .long M_runLast, .ref rM_was, .long M_peak, .long M_beside, .int M_besideAt])), (aNw, .inl (cNw, 139, .inr (.inl fNw))), (aRf, .inl (cRf, 3, .inl fRf))]) ⟨hx, hb, hml, hown, hts⟩ (c_X8_in l G p1.toInt64 0 2) (kk_cwS 3 hts hsb wd_156 wd_157 wd_5 wd_158 rfl rfl hd_X8_in ⟨Nat.le_of_ble_eq_true rfl, Nat.le_of_ble_eq_true rfl⟩) hA hK hq [] [0, 1, 2] [] rfl rfl rfl (by decide) (by decide) (by decide) rfl hl.1 rfl (Nat.le_of_ble_eq_true rfl) dX8_status_6 ⟨Nat.zero_le _, Nat.zero_le _⟩ (fun r_2 u_1 H locs h_3 hq => ?_)
  obtain ⟨er_2, zr_2⟩ := h_3
  have hq : kAt G A s [(aM, .inr (8, [.ref aNw, .ref rM_kept, .ref rM_isKept, .ref aRf, .int M_at, .int M_fault, .ref rM_values, .int M_valueMany, .ref rM_signs, .int M_signMany, .long M_tells, .int M_way, .int M_wish, .long M_moreTick, .long M_moreForce, .int M_runTurns, .long M_runFirst, .long M_runLast, .ref rM_was, .long M_peak, .long M_beside, .int M_besideAt])), (aNw, .inl (cNw, 139, .inr (.inl fNw))), (aRf, .inl (cRf, 3, .inl fRf))] H locs := hq
  have hrw := er_2
  refine lv_if_eq (tgt := 21) hx hb dX8_status_9 (by decide) (fun c_4 => ?_) (fun c_4 => ?_)
  · skip
    refine lv_iload_n hx hb dX8_status_21 rfl (lv_at hl 1 rfl) ?_
    refine lv_iconst (v := 3) hx hb dX8_status_22 (by decide) ?_
    refine lv_icmp_ne (tgt := 33) hx hb dX8_status_23 (by decide) (fun c_5 => ?_) (fun c_5 => ?_)
    · skip
      refine lv_aload_n hx hb dX8_status_33 rfl (lv_at hl 0 rfl) ?_
      refine lv_iconst (v := -1) hx hb dX8_status_34 (by decide) ?_
      refine kk_Vi (As := [.int (-1)]) (rest := []) (wr := [(aNw, .inl (cNw, 139, .inr (.inl fNw)))]) ⟨hx, hb, hml, hown, hts⟩ (c_X8_bad l G aM aRf aNw rM_kept rM_isKept rM_values rM_signs rM_was cRf (-1) M_at M_fault M_valueMany M_signMany M_tells M_way M_wish M_moreTick M_moreForce M_runTurns M_runFirst M_runLast M_peak M_beside M_besideAt fRf) (kk_cwV 1 hts hsb wd_159 wd_160 wd_161 wd_5 wd_162 rfl rfl hd_X8_bad ⟨Nat.le_of_ble_eq_true rfl, Nat.le_of_ble_eq_true rfl⟩) hA hK hq [0, 2] [1] [1] rfl rfl rfl (by decide) (by decide) (by decide) 0 8 rfl rfl rfl rfl hl.1 rfl (Nat.le_of_ble_eq_true rfl) dX8_status_35 ⟨Nat.zero_le _, Nat.zero_le _⟩ (fun r_7 u_6 H locs h_8 hq => ?_)
      obtain ⟨er_7, eu_6⟩ := h_8
      have hq : kAt G A s [(aNw, .inl (cNw, 139, .inr (.inl fNw))), (aM, .inr (8, [.ref aNw, .ref rM_kept, .ref rM_isKept, .ref aRf, .int M_at, .int M_fault, .ref rM_values, .int M_valueMany, .ref rM_signs, .int M_signMany, .long M_tells, .int M_way, .int M_wish, .long M_moreTick, .long M_moreForce, .int M_runTurns, .long M_runFirst, .long M_runLast, .ref rM_was, .long M_peak, .long M_beside, .int M_besideAt])), (aRf, .inl (cRf, 3, .inl u_6))] H locs := hq
      have hf : ((r_7, u_6) : Int32 × (Nat → Int32)) = fX8_status p1 fNw fRf := by
        exact ((congrArg (fun (r_2 : Int32) => ((if r_2 = 0 then (
    if p1 = 3 then (
      let r_10 : Int32 := fX8_pushMany fNw
      (r_10, fRf))
    else (
      let r_7 : Int32 := (fX8_bad (-1) fRf).1
      let u_6 : Nat → Int32 := (fX8_bad (-1) fRf).2
      (r_7, u_6)))
  else (
    (fRf p1.toNatClampNeg, fRf))) : Int32 × (Nat → Int32))) er_2.symm).trans ((if_pos c_4).trans ((if_neg c_5).trans ((congrArg (fun (r_7 : Int32) => ((let u_6 : Nat → Int32 := (fX8_bad (-1) fRf).2
  (r_7, u_6)) : Int32 × (Nat → Int32))) er_7.symm).trans ((congrArg (fun (u_6 : Nat → Int32) => (((r_7, u_6)) : Int32 × (Nat → Int32))) eu_6.symm)))))).symm
      have hf1 := congrArg Prod.fst hf
      have hf2 := congrArg Prod.snd hf
      exact kk_ei hx hb hr hlocks hK hq [1, 0, 2] u_6 rfl (by decide) dX8_status_38 ⟨hf1, hf2⟩
    · skip
      refine lv_aload_n hx hb dX8_status_26 rfl (lv_at hl 0 rfl) ?_
      refine kk_Vi (As := []) (rest := []) (wr := [(aRf, .inl (cRf, 3, .inl fRf))]) ⟨hx, hb, hml, hown, hts⟩ (c_X8_pushMany l G aM aNw rM_kept rM_isKept aRf rM_values rM_signs rM_was cNw M_at M_fault M_valueMany M_signMany M_tells M_way M_wish M_moreTick M_moreForce M_runTurns M_runFirst M_runLast M_peak M_beside M_besideAt fNw) (kk_cwV 0 hts hsb wd_351 wd_352 wd_353 wd_5 wd_354 rfl rfl hd_X8_pushMany ⟨Nat.le_of_ble_eq_true rfl, Nat.le_of_ble_eq_true rfl⟩) hA hK hq [0, 1] [2] [0] rfl rfl rfl (by decide) (by decide) (by decide) 0 8 rfl rfl rfl rfl hl.1 rfl (Nat.le_of_ble_eq_true rfl) dX8_status_27 ⟨Nat.zero_le _, Nat.zero_le _⟩ (fun r_10 u_9 H locs h_11 hq => ?_)
      have er_10 := h_11
      have hq : kAt G A s [(aRf, .inl (cRf, 3, .inl fRf)), (aM, .inr (8, [.ref aNw, .ref rM_kept, .ref rM_isKept, .ref aRf, .int M_at, .int M_fault, .ref rM_values, .int M_valueMany, .ref rM_signs, .int M_signMany, .long M_tells, .int M_way, .int M_wish, .long M_moreTick, .long M_moreForce, .int M_runTurns, .long M_runFirst, .long M_runLast, .ref rM_was, .long M_peak, .long M_beside, .int M_besideAt])), (aNw, .inl (cNw, 139, .inr (.inl fNw)))] H locs := hq
      refine lv_goto (tgt := 38) hx hb dX8_status_30 (by decide) ?_
      have hf : ((r_10, fRf) : Int32 × (Nat → Int32)) = fX8_status p1 fNw fRf := by
        exact ((congrArg (fun (r_2 : Int32) => ((if r_2 = 0 then (
    if p1 = 3 then (
      let r_10 : Int32 := fX8_pushMany fNw
      (r_10, fRf))
    else (
      let r_7 : Int32 := (fX8_bad (-1) fRf).1
      let u_6 : Nat → Int32 := (fX8_bad (-1) fRf).2
      (r_7, u_6)))
  else (
    (fRf p1.toNatClampNeg, fRf))) : Int32 × (Nat → Int32))) er_2.symm).trans ((if_pos c_4).trans ((if_pos c_5).trans ((congrArg (fun (r_10 : Int32) => (((r_10, fRf)) : Int32 × (Nat → Int32))) er_10.symm))))).symm
      have hf1 := congrArg Prod.fst hf
      have hf2 := congrArg Prod.snd hf
      exact kk_ei hx hb hr hlocks hK hq [1, 2, 0] fRf rfl (by decide) dX8_status_38 ⟨hf1, hf2⟩
  · skip
    have hw := in_i (hrw ▸ c_4)
    have w0 : 0 ≤ p1.toInt := hw.1
    have w1 : p1.toInt ≤ 2 := hw.2
    have w2 : p1.toInt < (3 : Nat) := by omega
    refine lv_aload_n hx hb dX8_status_12 rfl (lv_at hl 0 rfl) ?_
    refine kk_get (ci := 8) (v := .ref aRf) (C := RX8) (T := TX8) (N := 22) hx hb hts iX8 hown hK hq 0 rfl rfl 3 (by decide) lk1_ rfl dX8_status_13 ?_
    refine lv_iload_n hx hb dX8_status_16 rfl (lv_at hl 1 rfl) ?_
    refine kk_iald hx hb hK hq 2 1 rfl rfl p1.toNatClampNeg (kk_cl w0) (kk_clt w0 w2) (by decide) dX8_status_17 ?_
    refine lv_goto (tgt := 38) hx hb dX8_status_18 (by decide) ?_
    have hf : ((fRf p1.toNatClampNeg, fRf) : Int32 × (Nat → Int32)) = fX8_status p1 fNw fRf := by
      exact ((congrArg (fun (r_2 : Int32) => ((if r_2 = 0 then (
    if p1 = 3 then (
      let r_10 : Int32 := fX8_pushMany fNw
      (r_10, fRf))
    else (
      let r_7 : Int32 := (fX8_bad (-1) fRf).1
      let u_6 : Nat → Int32 := (fX8_bad (-1) fRf).2
      (r_7, u_6)))
  else (
    (fRf p1.toNatClampNeg, fRf))) : Int32 × (Nat → Int32))) er_2.symm).trans ((if_neg c_4))).symm
    have hf1 := congrArg Prod.fst hf
    have hf2 := congrArg Prod.snd hf
    exact kk_ei hx hb hr hlocks hK hq [0, 1, 2] fRf rfl (by decide) dX8_status_38 ⟨hf1, hf2⟩
def lpX8_postureOf_4 (p2 : Int32) : Nat → Int32 → Int32 → Int32 × Int32
  | 0, _, _ => (0, 0)
  | N + 1, kk_, lf =>
    if kk_ ≤ p2 then (
    (kk_, lf))
    else (
    let x2_2 : Int32 := lf / 3
    lpX8_postureOf_4 p2 N (kk_ + (-1)) x2_2)

def fX8_postureOf (p1 : Int32) (p2 : Int32) : Int32 :=
  let z_3 : Int32 × Int32 := lpX8_postureOf_4 p2 (6) 4 p1
  let z0_5 : Int32 := if z_3.2 - z_3.2 / 3 * 3 = 0 then 0 else if z_3.2 - z_3.2 / 3 * 3 = 1 then 4 else 9
  z0_5

set_option maxHeartbeats 4000000 in
set_option maxRecDepth 100000 in
theorem c_X8_postureOf (l : Launch) (G : va_G) (p1 : Int32) (p2 : Int32) (p0 : 0 ≤ p2.toInt) (p4 : p2.toInt ≤ 4) : kCi l yX8_postureOf (Cond.code yX8_postureOf cX8_postureOf 4 (some .int) :: wsL_law) ({ frames := 0, cells := 0, slots := 0, locals := 0 }) G [] [.int p1, .int p2] [] (fun (r : Int32) (_ : Unit) => r = fX8_postureOf p1 p2) (fun (_ : Unit) => []) := by
  intro sz
  refine Met.ofW (cc := cX8_postureOf) (maxL := 4) (ret := (some .int)) (by decide) rfl ?_
  intro p e s m args below meth c s₁ B hml hv
  obtain ⟨rfl, hv⟩ := hv
  obtain ⟨rfl, hK, hq, hA⟩ := kk_begin hv
  have hx := B.exec
  have hb := B.bytes
  have hr := B.returns
  have hts := atoms_spec (ws := (Cond.code yX8_postureOf cX8_postureOf 4 (some .int) :: wsL_law)) B.pre
  have hown : s.vm.findClass RX8 = some m.cls := findClass_of_methodNamed B.named
  have hlocks := B.notSynchronized
  have hsb : ∀ w ∈ wsL_law, w ∈ (Cond.code yX8_postureOf cX8_postureOf 4 (some .int) :: wsL_law) := fun _ h => List.mem_cons_of_mem _ h
  generalize va_A [] s.heap.size = A at hq hA ⊢
  have hl := lv_entry ([.int p1, .int p2]) (n := 4) (Nat.le_of_ble_eq_true rfl)
  rw [lg_entry_eq]
  generalize (lg_sl ([.int p1, .int p2]) ++ List.replicate (4 - (lg_sl ([.int p1, .int p2])).length) Slot.unset).toArray = ls at hl ⊢
  have hl : lv_has ls 4 [(0, .int p1), (1, .int p2)] := hl
  refine lv_iload_n hx hb dX8_postureOf_0 rfl (lv_at hl 0 rfl) ?_
  refine lv_istore_n (lv' := [(2, .int p1), (0, .int p1), (1, .int p2)]) hx hb dX8_postureOf_1 rfl hl (by decide) rfl (fun ls hl => ?_)
  refine lv_iconst (v := 4) hx hb dX8_postureOf_2 (by decide) ?_
  refine lv_istore_n (lv' := [(3, .int 4), (2, .int p1), (0, .int p1), (1, .int p2)]) hx hb dX8_postureOf_3 rfl hl (by decide) rfl (fun ls hl => ?_)
  refine kk_loop2 (fun N4 (kk_ : Int32) (lf : Int32) (H : Heap) (locs : List Loc) (ls : Array Slot) => lpX8_postureOf_4 p2 (6) 4 p1 = lpX8_postureOf_4 p2 N4 kk_ lf ∧ (kk_.toInt ≤ 4) ∧ (p2.toInt ≤ kk_.toInt) ∧ (kk_.toInt - p2.toInt < N4) ∧ lv_has ls 4 [(3, .int kk_), (2, .int lf), (0, .int p1), (1, .int p2)] ∧ kAt G A s [] H locs) 4 (fun kk_ lf => []) (fun kk_ lf H locs ls hv => ?_) (fun N4 kk_ lf H locs ls ih4 hv => ?_) (6) 4 p1 _ _ _ ⟨rfl, (by decide), (by have e : (4 : Int32).toInt = 4 := rfl; omega), (by have e : (4 : Int32).toInt = 4 := rfl; omega), lv_sub hl [0, 1, 2, 3] rfl, hq⟩
  · skip
    obtain ⟨hrel4, k4, kp, hN, hl, hq⟩ := hv
    omega
  · skip
    obtain ⟨hrel4, k4, kp, hN, hl, hq⟩ := hv
    refine lv_iload_n hx hb dX8_postureOf_4 rfl (lv_at hl 0 rfl) ?_
    refine lv_iload_n hx hb dX8_postureOf_5 rfl (lv_at hl 3 rfl) ?_
    refine lv_icmp_le (tgt := 19) hx hb dX8_postureOf_6 (by decide) (fun c_1 => ?_) (fun c_1 => ?_)
    · skip
      have hx_2 : ((kk_, lf) : Int32 × Int32) = lpX8_postureOf_4 p2 (6) 4 p1 := (hrel4.trans ((if_pos c_1))).symm
      obtain ⟨z_3, gz_3⟩ : ∃ z : Int32 × Int32, z = (kk_, lf) := ⟨_, rfl⟩
      have ez_3 : z_3 = lpX8_postureOf_4 p2 (6) 4 p1 := gz_3.trans hx_2
      have hl : lv_has ls 4 [(3, .int z_3.1), (2, .int z_3.2), (0, .int p1), (1, .int p2)] := by subst gz_3; exact hl
      have hq : kAt G A s [] H locs := by subst gz_3; exact hq
      refine lv_iload_n hx hb dX8_postureOf_19 rfl (lv_at hl 1 rfl) ?_
      refine lv_iconst (v := 3) hx hb dX8_postureOf_20 (by decide) ?_
      refine lv_irem hx hb dX8_postureOf_21 (by decide) ?_
      refine kk_join1 (fun (z0_5 : Int32) (H : Heap) (locs : List Loc) (ls : Array Slot) => z0_5 = (if z_3.2 - z_3.2 / 3 * 3 = 0 then 0 else if z_3.2 - z_3.2 / 3 * 3 = 1 then 4 else 9) ∧ lv_has ls 4 [(3, .int z_3.1), (2, .int z_3.2), (0, .int p1), (1, .int p2)] ∧ kAt G A s [] H locs) 42 (fun z0_5 => [.int z0_5]) (fun z0_5 H locs ls hv => ?_) (fun J_6 => ?_)
      · skip
        obtain ⟨ez0_5, hl, hq⟩ := hv
        have hf : (z0_5 : Int32) = fX8_postureOf p1 p2 := by
          exact ((congrArg (fun (z_3 : Int32 × Int32) => ((let z0_5 : Int32 := if z_3.2 - z_3.2 / 3 * 3 = 0 then 0 else if z_3.2 - z_3.2 / 3 * 3 = 1 then 4 else 9
  z0_5) : Int32)) ez_3.symm).trans ((congrArg (fun (z0_5 : Int32) => ((z0_5) : Int32)) ez0_5.symm))).symm
        exact kk_ei hx hb hr hlocks hK hq [] () rfl (by decide) dX8_postureOf_42 hf
      · skip
        refine lv_if_ne (tgt := 29) hx hb dX8_postureOf_22 (by decide) (fun c_4 => ?_) (fun c_4 => ?_)
        · skip
          refine lv_iload_n hx hb dX8_postureOf_29 rfl (lv_at hl 1 rfl) ?_
          refine lv_iconst (v := 3) hx hb dX8_postureOf_30 (by decide) ?_
          refine lv_irem hx hb dX8_postureOf_31 (by decide) ?_
          refine lv_iconst (v := 1) hx hb dX8_postureOf_32 (by decide) ?_
          refine lv_icmp_ne (tgt := 40) hx hb dX8_postureOf_33 (by decide) (fun c_7 => ?_) (fun c_7 => ?_)
          · skip
            refine lv_bipush (v := 9) hx hb dX8_postureOf_40 (by decide) ?_
            exact J_6 9 _ _ _ ⟨((if_neg c_4).trans (if_neg c_7)).symm, lv_sub hl [0, 1, 2, 3] rfl, hq⟩
          · skip
            refine lv_iconst (v := 4) hx hb dX8_postureOf_36 (by decide) ?_
            refine lv_goto (tgt := 42) hx hb dX8_postureOf_37 (by decide) ?_
            exact J_6 4 _ _ _ ⟨((if_neg c_4).trans (if_pos c_7)).symm, lv_sub hl [0, 1, 2, 3] rfl, hq⟩
        · skip
          refine lv_iconst (v := 0) hx hb dX8_postureOf_25 (by decide) ?_
          refine lv_goto (tgt := 42) hx hb dX8_postureOf_26 (by decide) ?_
          exact J_6 0 _ _ _ ⟨(if_pos c_4).symm, lv_sub hl [0, 1, 2, 3] rfl, hq⟩
    · skip
      have hk : p2.toInt < kk_.toInt := by have h := c_1; rw [il_le] at h; omega
      refine lv_iload_n hx hb dX8_postureOf_9 rfl (lv_at hl 1 rfl) ?_
      refine lv_iconst (v := 3) hx hb dX8_postureOf_10 (by decide) ?_
      refine lv_idiv hx hb dX8_postureOf_11 (by decide) ?_
      refine lv_topi (fun x2_8 ex2_8 => ?_)
      refine lv_istore_n (lv' := [(2, .int x2_8), (3, .int kk_), (0, .int p1), (1, .int p2)]) hx hb dX8_postureOf_12 rfl hl (by decide) rfl (fun ls hl => ?_)
      refine lv_iinc (v := kk_ + (-1)) (lv' := [(3, .int (kk_ + (-1))), (2, .int x2_8), (0, .int p1), (1, .int p2)]) hx hb dX8_postureOf_13 hl (k := 1) rfl rfl (by decide) rfl (fun ls hl => ?_)
      refine lv_goto (tgt := 4) hx hb dX8_postureOf_16 (by decide) ?_
      exact ih4 (kk_ + (-1)) x2_8 _ _ _ ⟨(hrel4.trans ((if_neg c_1).trans ((congrArg (fun (x2_8 : Int32) => ((lpX8_postureOf_4 p2 N4 (kk_ + (-1)) x2_8) : Int32 × Int32)) ex2_8.symm)))), (by have := kk_dec2 (x := kk_) (by omega); omega), (by have := kk_dec2 (x := kk_) (by omega); omega), (by have := kk_dec2 (x := kk_) (by omega); omega), lv_sub hl [0, 1, 2, 3] rfl, hq⟩
def lpX8_image_19 (p1 : Int32) (fNw : Nat → Int64) : Nat → Int32 → (Nat → Int64) → Int32 × (Nat → Int64)
  | 0, _, _ => (0, fun _ => 0)
  | N + 1, i, kf =>
    if 139 ≤ i then (
    (i, kf))
    else (
    let w_6 : Int64 := fNw i.toNatClampNeg
    let fKp_7 : Nat → Int64 := vp_updL kf (139 * p1.toNatClampNeg + i.toNatClampNeg) w_6
    lpX8_image_19 p1 fNw N (i + 1) fKp_7)

def fX8_image (p1 : Int32) (fNw : Nat → Int64) (fKp : Nat → Int64) (fIk : Nat → Int32) (fRf : Nat → Int32) : Int32 × (Nat → Int64) × (Nat → Int32) × (Nat → Int32) :=
  let r_2 : Int32 := fX8_in p1.toInt64 0 1
  if r_2 = 0 then (
    let r_11 : Int32 := (fX8_bad (-2) fRf).1
    let u_10 : Nat → Int32 := (fX8_bad (-2) fRf).2
    (r_11, fKp, fIk, u_10))
  else (
    let z_7 : Int32 × (Nat → Int64) := lpX8_image_19 p1 fNw (140) 0 fKp
    (1, z_7.2, upd fIk p1.toNatClampNeg 1, fRf))

set_option maxHeartbeats 4000000 in
set_option maxRecDepth 100000 in
theorem c_X8_image (l : Launch) (G : va_G) (aM aNw aKp aIk aRf rM_values rM_signs rM_was : Nat) (cNw cKp cIk cRf : ClassId) (p1 : Int32) (M_at : Int32) (M_fault : Int32) (M_valueMany : Int32) (M_signMany : Int32) (M_tells : Int64) (M_way : Int32) (M_wish : Int32) (M_moreTick : Int64) (M_moreForce : Int64) (M_runTurns : Int32) (M_runFirst : Int64) (M_runLast : Int64) (M_peak : Int64) (M_beside : Int64) (M_besideAt : Int32) (fNw : Nat → Int64) (fKp : Nat → Int64) (fIk : Nat → Int32) (fRf : Nat → Int32) : kCi l yX8_image (Cond.code yX8_image cX8_image 3 (some .int) :: wsL_law) ({ frames := 1, cells := 0, slots := 0, locals := 25 }) G [(cNw, .long), (cKp, .long), (cIk, .boolean), (cRf, .int)] [.ref aM, .int p1] [(aM, .inr (8, [.ref aNw, .ref aKp, .ref aIk, .ref aRf, .int M_at, .int M_fault, .ref rM_values, .int M_valueMany, .ref rM_signs, .int M_signMany, .long M_tells, .int M_way, .int M_wish, .long M_moreTick, .long M_moreForce, .int M_runTurns, .long M_runFirst, .long M_runLast, .ref rM_was, .long M_peak, .long M_beside, .int M_besideAt])), (aNw, .inl (cNw, 139, .inr (.inl fNw))), (aKp, .inl (cKp, 278, .inr (.inl fKp))), (aIk, .inl (cIk, 2, .inl fIk)), (aRf, .inl (cRf, 3, .inl fRf))] (fun (r : Int32) (u : (Nat → Int64) × (Nat → Int32) × (Nat → Int32)) => r = (fX8_image p1 fNw fKp fIk fRf).1 ∧ u = (fX8_image p1 fNw fKp fIk fRf).2) (fun (u : (Nat → Int64) × (Nat → Int32) × (Nat → Int32)) => [(aM, .inr (8, [.ref aNw, .ref aKp, .ref aIk, .ref aRf, .int M_at, .int M_fault, .ref rM_values, .int M_valueMany, .ref rM_signs, .int M_signMany, .long M_tells, .int M_way, .int M_wish, .long M_moreTick, .long M_moreForce, .int M_runTurns, .long M_runFirst, .long M_runLast, .ref rM_was, .long M_peak, .long M_beside, .int M_besideAt])), (aNw, .inl (cNw, 139, .inr (.inl fNw))), (aKp, .inl (cKp, 278, .inr (.inl u.1))), (aIk, .inl (cIk, 2, .inl u.2.1)), (aRf, .inl (cRf, 3, .inl u.2.2))]) := by
  intro sz
  refine Met.ofW (cc := cX8_image) (maxL := 3) (ret := (some .int)) (by decide) rfl ?_
  intro p e s m args below meth c s₁ B hml hv
  obtain ⟨rfl, hv⟩ := hv
  obtain ⟨rfl, hK, hq, hA⟩ := kk_begin hv
  have hx := B.exec
  have hb := B.bytes
  have hr := B.returns
  have hts := atoms_spec (ws := (Cond.code yX8_image cX8_image 3 (some .int) :: wsL_law)) B.pre
  have hown : s.vm.findClass RX8 = some m.cls := findClass_of_methodNamed B.named
  have hlocks := B.notSynchronized
  have hsb : ∀ w ∈ wsL_law, w ∈ (Cond.code yX8_image cX8_image 3 (some .int) :: wsL_law) := fun _ h => List.mem_cons_of_mem _ h
  generalize va_A [(aM, .inr (8, [.ref aNw, .ref aKp, .ref aIk, .ref aRf, .int M_at, .int M_fault, .ref rM_values, .int M_valueMany, .ref rM_signs, .int M_signMany, .long M_tells, .int M_way, .int M_wish, .long M_moreTick, .long M_moreForce, .int M_runTurns, .long M_runFirst, .long M_runLast, .ref rM_was, .long M_peak, .long M_beside, .int M_besideAt])), (aNw, .inl (cNw, 139, .inr (.inl fNw))), (aKp, .inl (cKp, 278, .inr (.inl fKp))), (aIk, .inl (cIk, 2, .inl fIk)), (aRf, .inl (cRf, 3, .inl fRf))] s.heap.size = A at hq hA ⊢
  have iX8 : ∀ w ∈ u_ws RX8 TX8 22, w ∈ (Cond.code yX8_image cX8_image 3 (some .int) :: wsL_law) := fun w h => hsb w (bin_X8 w h)
  have lk0_ := hts _ (hsb _ wd_118)
  have lk1_ := hts _ (hsb _ wd_117)
  have lk2_ := hts _ (hsb _ wd_119)
  have hl := lv_entry ([.ref aM, .int p1]) (n := 3) (Nat.le_of_ble_eq_true rfl)
  rw [lg_entry_eq]
  generalize (lg_sl ([.ref aM, .int p1]) ++ List.replicate (3 - (lg_sl ([.ref aM, .int p1])).length) Slot.unset).toArray = ls at hl ⊢
  have hl : lv_has ls 3 [(0, .ref aM), (1, .int p1)] := hl
  refine lv_iload_n hx hb dX8_image_0 rfl (lv_at hl 1 rfl) ?_
  refine lv_i2l hx hb dX8_image_1 rfl ?_
  refine lv_lconst (v := 0) hx hb dX8_image_2 (by decide) ?_
  refine lv_lconst (v := 1) hx hb dX8_image_3 (by decide) ?_
  refine kk_Si (As := [.long p1.toInt64, .long 0, .long 1]) (rest := []) (wr := [(aM, .inr (8, [.ref aNw, .ref aKp, .ref aIk, .ref aRf, .int M_at, .int M_fault, .ref rM_values, .int M_valueMany, .ref rM_signs, .int M_signMany, .long M_tells, .int M_way, .int M_wish, .long M_moreTick, .long M_moreForce, .int M_runTurns, .long M_runFirst, .long M_runLast, .ref rM_was, .long M_peak, .long M_beside, .int M_besideAt])), (aNw, .inl (cNw, 139, .inr (.inl fNw))), (aKp, .inl (cKp, 278, .inr (.inl fKp))), (aIk, .inl (cIk, 2, .inl fIk)), (aRf, .inl (cRf, 3, .inl fRf))]) ⟨hx, hb, hml, hown, hts⟩ (c_X8_in l G p1.toInt64 0 1) (kk_cwS 3 hts hsb wd_156 wd_157 wd_5 wd_158 rfl rfl hd_X8_in ⟨Nat.le_of_ble_eq_true rfl, Nat.le_of_ble_eq_true rfl⟩) hA hK hq [] [0, 1, 2, 3, 4] [] rfl rfl rfl (by decide) (by decide) (by decide) rfl hl.1 rfl (Nat.le_of_ble_eq_true rfl) dX8_image_4 ⟨Nat.zero_le _, Nat.zero_le _⟩ (fun r_2 u_1 H locs h_3 hq => ?_)
  obtain ⟨er_2, zr_2⟩ := h_3
  have hq : kAt G A s [(aM, .inr (8, [.ref aNw, .ref aKp, .ref aIk, .ref aRf, .int M_at, .int M_fault, .ref rM_values, .int M_valueMany, .ref rM_signs, .int M_signMany, .long M_tells, .int M_way, .int M_wish, .long M_moreTick, .long M_moreForce, .int M_runTurns, .long M_runFirst, .long M_runLast, .ref rM_was, .long M_peak, .long M_beside, .int M_besideAt])), (aNw, .inl (cNw, 139, .inr (.inl fNw))), (aKp, .inl (cKp, 278, .inr (.inl fKp))), (aIk, .inl (cIk, 2, .inl fIk)), (aRf, .inl (cRf, 3, .inl fRf))] H locs := hq
  have hrw := er_2
  refine lv_if_ne (tgt := 17) hx hb dX8_image_7 (by decide) (fun c_4 => ?_) (fun c_4 => ?_)
  · skip
    have hw := in_i (hrw ▸ c_4)
    have w0 : 0 ≤ p1.toInt := hw.1
    have w1 : p1.toInt ≤ 1 := hw.2
    have w2 : p1.toInt < (2 : Nat) := by omega
    refine lv_iconst (v := 0) hx hb dX8_image_17 (by decide) ?_
    refine lv_istore_n (lv' := [(2, .int 0), (0, .ref aM), (1, .int p1)]) hx hb dX8_image_18 rfl hl (by decide) rfl (fun ls hl => ?_)
    refine kk_loop2 (fun N19 (i : Int32) (kf : Nat → Int64) (H : Heap) (locs : List Loc) (ls : Array Slot) => lpX8_image_19 p1 fNw (140) 0 fKp = lpX8_image_19 p1 fNw N19 i kf ∧ (0 ≤ i.toInt) ∧ (i.toInt ≤ 139) ∧ (i.toInt + N19 = 140) ∧ lv_has ls 3 [(2, .int i), (0, .ref aM), (1, .int p1)] ∧ kAt G A s [(aM, .inr (8, [.ref aNw, .ref aKp, .ref aIk, .ref aRf, .int M_at, .int M_fault, .ref rM_values, .int M_valueMany, .ref rM_signs, .int M_signMany, .long M_tells, .int M_way, .int M_wish, .long M_moreTick, .long M_moreForce, .int M_runTurns, .long M_runFirst, .long M_runLast, .ref rM_was, .long M_peak, .long M_beside, .int M_besideAt])), (aNw, .inl (cNw, 139, .inr (.inl fNw))), (aKp, .inl (cKp, 278, .inr (.inl kf))), (aIk, .inl (cIk, 2, .inl fIk)), (aRf, .inl (cRf, 3, .inl fRf))] H locs) 19 (fun i kf => []) (fun i kf H locs ls hv => ?_) (fun N19 i kf H locs ls ih19 hv => ?_) (140) 0 fKp _ _ _ ⟨rfl, (by decide), (by decide), (by decide), lv_sub hl [0, 1, 2] rfl, hq⟩
    · skip
      obtain ⟨hrel19, i0, i1, hN, hl, hq⟩ := hv
      omega
    · skip
      obtain ⟨hrel19, i0, i1, hN, hl, hq⟩ := hv
      refine lv_iload_n hx hb dX8_image_19 rfl (lv_at hl 0 rfl) ?_
      refine lv_sipush (v := 139) hx hb dX8_image_20 (by decide) ?_
      refine lv_icmp_ge (tgt := 50) hx hb dX8_image_23 (by decide) (fun c_5 => ?_) (fun c_5 => ?_)
      · skip
        have hx_6 : ((i, kf) : Int32 × (Nat → Int64)) = lpX8_image_19 p1 fNw (140) 0 fKp := (hrel19.trans ((if_pos c_5))).symm
        obtain ⟨z_7, gz_7⟩ : ∃ z : Int32 × (Nat → Int64), z = (i, kf) := ⟨_, rfl⟩
        have ez_7 : z_7 = lpX8_image_19 p1 fNw (140) 0 fKp := gz_7.trans hx_6
        have hl : lv_has ls 3 [(2, .int z_7.1), (0, .ref aM), (1, .int p1)] := by subst gz_7; exact hl
        have hq : kAt G A s [(aM, .inr (8, [.ref aNw, .ref aKp, .ref aIk, .ref aRf, .int M_at, .int M_fault, .ref rM_values, .int M_valueMany, .ref rM_signs, .int M_signMany, .long M_tells, .int M_way, .int M_wish, .long M_moreTick, .long M_moreForce, .int M_runTurns, .long M_runFirst, .long M_runLast, .ref rM_was, .long M_peak, .long M_beside, .int M_besideAt])), (aNw, .inl (cNw, 139, .inr (.inl fNw))), (aKp, .inl (cKp, 278, .inr (.inl z_7.2))), (aIk, .inl (cIk, 2, .inl fIk)), (aRf, .inl (cRf, 3, .inl fRf))] H locs := by subst gz_7; exact hq
        refine lv_aload_n hx hb dX8_image_50 rfl (lv_at hl 1 rfl) ?_
        refine kk_get (ci := 8) (v := .ref aIk) (C := RX8) (T := TX8) (N := 22) hx hb hts iX8 hown hK hq 0 rfl rfl 2 (by decide) lk2_ rfl dX8_image_51 ?_
        refine lv_iload_n hx hb dX8_image_54 rfl (lv_at hl 2 rfl) ?_
        refine lv_iconst (v := 1) hx hb dX8_image_55 (by decide) ?_
        refine kk_zast (ws' := [(aM, .inr (8, [.ref aNw, .ref aKp, .ref aIk, .ref aRf, .int M_at, .int M_fault, .ref rM_values, .int M_valueMany, .ref rM_signs, .int M_signMany, .long M_tells, .int M_way, .int M_wish, .long M_moreTick, .long M_moreForce, .int M_runTurns, .long M_runFirst, .long M_runLast, .ref rM_was, .long M_peak, .long M_beside, .int M_besideAt])), (aNw, .inl (cNw, 139, .inr (.inl fNw))), (aKp, .inl (cKp, 278, .inr (.inl z_7.2))), (aIk, .inl (cIk, 2, .inl (upd fIk p1.toNatClampNeg 1))), (aRf, .inl (cRf, 3, .inl fRf))]) hx hb hK hq 3 2 rfl rfl p1.toNatClampNeg (kk_cl w0) (kk_clt w0 w2) (by decide) rfl dX8_image_56 rfl (fun H locs hq => ?_)
        refine lv_iconst (v := 1) hx hb dX8_image_57 (by decide) ?_
        have hf : ((1, z_7.2, upd fIk p1.toNatClampNeg 1, fRf) : Int32 × (Nat → Int64) × (Nat → Int32) × (Nat → Int32)) = fX8_image p1 fNw fKp fIk fRf := by
          exact ((congrArg (fun (r_2 : Int32) => ((if r_2 = 0 then (
    let r_11 : Int32 := (fX8_bad (-2) fRf).1
    let u_10 : Nat → Int32 := (fX8_bad (-2) fRf).2
    (r_11, fKp, fIk, u_10))
  else (
    let z_7 : Int32 × (Nat → Int64) := lpX8_image_19 p1 fNw (140) 0 fKp
    (1, z_7.2, upd fIk p1.toNatClampNeg 1, fRf))) : Int32 × (Nat → Int64) × (Nat → Int32) × (Nat → Int32))) er_2.symm).trans ((if_neg c_4).trans ((congrArg (fun (z_7 : Int32 × (Nat → Int64)) => (((1, z_7.2, upd fIk p1.toNatClampNeg 1, fRf)) : Int32 × (Nat → Int64) × (Nat → Int32) × (Nat → Int32))) ez_7.symm)))).symm
        have hf1 := congrArg Prod.fst hf
        have hf2 := congrArg Prod.snd hf
        exact kk_ei hx hb hr hlocks hK hq [0, 1, 2, 3, 4] (z_7.2, upd fIk p1.toNatClampNeg 1, fRf) rfl (by decide) dX8_image_58 ⟨hf1, hf2⟩
      · skip
        have hi := kk_nle (k := 139) rfl c_5
        refine lv_aload_n hx hb dX8_image_26 rfl (lv_at hl 1 rfl) ?_
        refine kk_get (ci := 8) (v := .ref aKp) (C := RX8) (T := TX8) (N := 22) hx hb hts iX8 hown hK hq 0 rfl rfl 1 (by decide) lk0_ rfl dX8_image_27 ?_
        refine lv_sipush (v := 139) hx hb dX8_image_30 (by decide) ?_
        refine lv_iload_n hx hb dX8_image_33 rfl (lv_at hl 2 rfl) ?_
        refine lv_imul hx hb dX8_image_34 ?_
        refine lv_iload_n hx hb dX8_image_35 rfl (lv_at hl 0 rfl) ?_
        refine lv_iadd hx hb dX8_image_36 ?_
        refine lv_aload_n hx hb dX8_image_37 rfl (lv_at hl 1 rfl) ?_
        refine kk_get (ci := 8) (v := .ref aNw) (C := RX8) (T := TX8) (N := 22) hx hb hts iX8 hown hK hq 0 rfl rfl 0 (by decide) lk1_ rfl dX8_image_38 ?_
        refine lv_iload_n hx hb dX8_image_41 rfl (lv_at hl 0 rfl) ?_
        refine kk_lald hx hb hK hq 1 0 rfl rfl i.toNatClampNeg (kk_cl i0) (kk_clt i0 hi) (by decide) dX8_image_42 ?_
        refine lv_topl (fun w_8 ew_8 => ?_)
        refine kk_last (ws' := [(aM, .inr (8, [.ref aNw, .ref aKp, .ref aIk, .ref aRf, .int M_at, .int M_fault, .ref rM_values, .int M_valueMany, .ref rM_signs, .int M_signMany, .long M_tells, .int M_way, .int M_wish, .long M_moreTick, .long M_moreForce, .int M_runTurns, .long M_runFirst, .long M_runLast, .ref rM_was, .long M_peak, .long M_beside, .int M_besideAt])), (aNw, .inl (cNw, 139, .inr (.inl fNw))), (aKp, .inl (cKp, 278, .inr (.inl (vp_updL kf (139 * p1.toNatClampNeg + i.toNatClampNeg) w_8)))), (aIk, .inl (cIk, 2, .inl fIk)), (aRf, .inl (cRf, 3, .inl fRf))]) hx hb hK hq 2 1 rfl rfl (139 * p1.toNatClampNeg + i.toNatClampNeg) (ix_139 w0 w1 i0 hi).1 (ix_139 w0 w1 i0 hi).2 (by decide) dX8_image_43 rfl (fun H locs hq => ?_)
        obtain ⟨fKp_9, efKp_9⟩ : ∃ z : Nat → Int64, z = vp_updL kf (139 * p1.toNatClampNeg + i.toNatClampNeg) w_8 := ⟨_, rfl⟩
        rw [← efKp_9] at hq
        refine lv_iinc (v := i + 1) (lv' := [(2, .int (i + 1)), (0, .ref aM), (1, .int p1)]) hx hb dX8_image_44 hl (k := 0) rfl rfl (by decide) rfl (fun ls hl => ?_)
        refine lv_goto (tgt := 19) hx hb dX8_image_47 (by decide) ?_
        exact ih19 (i + 1) fKp_9 _ _ _ ⟨(hrel19.trans ((if_neg c_5).trans ((congrArg (fun (w_8 : Int64) => ((let fKp_7 : Nat → Int64 := vp_updL kf (139 * p1.toNatClampNeg + i.toNatClampNeg) w_8
    lpX8_image_19 p1 fNw N19 (i + 1) fKp_7) : Int32 × (Nat → Int64))) ew_8.symm).trans ((congrArg (fun (fKp_9 : Nat → Int64) => ((lpX8_image_19 p1 fNw N19 (i + 1) fKp_9) : Int32 × (Nat → Int64))) efKp_9.symm))))), (by have := kk_inc (x := i) (by omega); omega), (by have := kk_inc (x := i) (by omega); omega), (by have := kk_inc (x := i) (by omega); omega), lv_sub hl [0, 1, 2] rfl, hq⟩
  · skip
    refine lv_aload_n hx hb dX8_image_10 rfl (lv_at hl 0 rfl) ?_
    refine lv_bipush (v := -2) hx hb dX8_image_11 (by decide) ?_
    refine kk_Vi (As := [.int (-2)]) (rest := []) (wr := [(aNw, .inl (cNw, 139, .inr (.inl fNw))), (aKp, .inl (cKp, 278, .inr (.inl fKp))), (aIk, .inl (cIk, 2, .inl fIk))]) ⟨hx, hb, hml, hown, hts⟩ (c_X8_bad l G aM aRf aNw aKp aIk rM_values rM_signs rM_was cRf (-2) M_at M_fault M_valueMany M_signMany M_tells M_way M_wish M_moreTick M_moreForce M_runTurns M_runFirst M_runLast M_peak M_beside M_besideAt fRf) (kk_cwV 1 hts hsb wd_159 wd_160 wd_161 wd_5 wd_162 rfl rfl hd_X8_bad ⟨Nat.le_of_ble_eq_true rfl, Nat.le_of_ble_eq_true rfl⟩) hA hK hq [0, 4] [1, 2, 3] [3] rfl rfl rfl (by decide) (by decide) (by decide) 0 8 rfl rfl rfl rfl hl.1 rfl (Nat.le_of_ble_eq_true rfl) dX8_image_13 ⟨Nat.zero_le _, Nat.zero_le _⟩ (fun r_11 u_10 H locs h_12 hq => ?_)
    obtain ⟨er_11, eu_10⟩ := h_12
    have hq : kAt G A s [(aNw, .inl (cNw, 139, .inr (.inl fNw))), (aKp, .inl (cKp, 278, .inr (.inl fKp))), (aIk, .inl (cIk, 2, .inl fIk)), (aM, .inr (8, [.ref aNw, .ref aKp, .ref aIk, .ref aRf, .int M_at, .int M_fault, .ref rM_values, .int M_valueMany, .ref rM_signs, .int M_signMany, .long M_tells, .int M_way, .int M_wish, .long M_moreTick, .long M_moreForce, .int M_runTurns, .long M_runFirst, .long M_runLast, .ref rM_was, .long M_peak, .long M_beside, .int M_besideAt])), (aRf, .inl (cRf, 3, .inl u_10))] H locs := hq
    have hf : ((r_11, fKp, fIk, u_10) : Int32 × (Nat → Int64) × (Nat → Int32) × (Nat → Int32)) = fX8_image p1 fNw fKp fIk fRf := by
      exact ((congrArg (fun (r_2 : Int32) => ((if r_2 = 0 then (
    let r_11 : Int32 := (fX8_bad (-2) fRf).1
    let u_10 : Nat → Int32 := (fX8_bad (-2) fRf).2
    (r_11, fKp, fIk, u_10))
  else (
    let z_7 : Int32 × (Nat → Int64) := lpX8_image_19 p1 fNw (140) 0 fKp
    (1, z_7.2, upd fIk p1.toNatClampNeg 1, fRf))) : Int32 × (Nat → Int64) × (Nat → Int32) × (Nat → Int32))) er_2.symm).trans ((if_pos c_4).trans ((congrArg (fun (r_11 : Int32) => ((let u_10 : Nat → Int32 := (fX8_bad (-2) fRf).2
  (r_11, fKp, fIk, u_10)) : Int32 × (Nat → Int64) × (Nat → Int32) × (Nat → Int32))) er_11.symm).trans ((congrArg (fun (u_10 : Nat → Int32) => (((r_11, fKp, fIk, u_10)) : Int32 × (Nat → Int64) × (Nat → Int32) × (Nat → Int32))) eu_10.symm))))).symm
    have hf1 := congrArg Prod.fst hf
    have hf2 := congrArg Prod.snd hf
    exact kk_ei hx hb hr hlocks hK hq [3, 0, 1, 2, 4] (fKp, fIk, u_10) rfl (by decide) dX8_image_16 ⟨hf1, hf2⟩
def lpX8_from_41 (p1 : Int32) (fKp : Nat → Int64) : Nat → Int32 → (Nat → Int64) → Int32 × (Nat → Int64)
  | 0, _, _ => (0, fun _ => 0)
  | N + 1, i, nf =>
    if 139 ≤ i then (
    (i, nf))
    else (
    let w_7 : Int64 := fKp (139 * p1.toNatClampNeg + i.toNatClampNeg)
    let fNw_8 : Nat → Int64 := vp_updL nf i.toNatClampNeg w_7
    lpX8_from_41 p1 fKp N (i + 1) fNw_8)

def fX8_from (p1 : Int32) (fNw : Nat → Int64) (fKp : Nat → Int64) (fIk : Nat → Int32) (fRf : Nat → Int32) : Int32 × (Nat → Int64) × (Nat → Int32) :=
  let r_2 : Int32 := fX8_in p1.toInt64 0 1
  if r_2 = 0 then (
    let r_14 : Int32 := (fX8_bad (-2) fRf).1
    let u_13 : Nat → Int32 := (fX8_bad (-2) fRf).2
    (r_14, fNw, u_13))
  else (
    if fIk p1.toNatClampNeg = 0 then (
      let w_11 : Int32 := (fRf 1) + 1
      let fRf_12 : Nat → Int32 := upd fRf 1 w_11
      ((-3), fNw, fRf_12))
    else (
      let z_8 : Int32 × (Nat → Int64) := lpX8_from_41 p1 fKp (140) 0 fNw
      (1, z_8.2, fRf)))

set_option maxHeartbeats 4000000 in
set_option maxRecDepth 100000 in
theorem c_X8_from (l : Launch) (G : va_G) (aM aNw aKp aIk aRf rM_values rM_signs rM_was : Nat) (cNw cKp cIk cRf : ClassId) (p1 : Int32) (M_at : Int32) (M_fault : Int32) (M_valueMany : Int32) (M_signMany : Int32) (M_tells : Int64) (M_way : Int32) (M_wish : Int32) (M_moreTick : Int64) (M_moreForce : Int64) (M_runTurns : Int32) (M_runFirst : Int64) (M_runLast : Int64) (M_peak : Int64) (M_beside : Int64) (M_besideAt : Int32) (fNw : Nat → Int64) (fKp : Nat → Int64) (fIk : Nat → Int32) (fRf : Nat → Int32) : kCi l yX8_from (Cond.code yX8_from cX8_from 3 (some .int) :: wsL_law) ({ frames := 1, cells := 0, slots := 0, locals := 25 }) G [(cNw, .long), (cKp, .long), (cIk, .boolean), (cRf, .int)] [.ref aM, .int p1] [(aM, .inr (8, [.ref aNw, .ref aKp, .ref aIk, .ref aRf, .int M_at, .int M_fault, .ref rM_values, .int M_valueMany, .ref rM_signs, .int M_signMany, .long M_tells, .int M_way, .int M_wish, .long M_moreTick, .long M_moreForce, .int M_runTurns, .long M_runFirst, .long M_runLast, .ref rM_was, .long M_peak, .long M_beside, .int M_besideAt])), (aNw, .inl (cNw, 139, .inr (.inl fNw))), (aKp, .inl (cKp, 278, .inr (.inl fKp))), (aIk, .inl (cIk, 2, .inl fIk)), (aRf, .inl (cRf, 3, .inl fRf))] (fun (r : Int32) (u : (Nat → Int64) × (Nat → Int32)) => r = (fX8_from p1 fNw fKp fIk fRf).1 ∧ u = (fX8_from p1 fNw fKp fIk fRf).2) (fun (u : (Nat → Int64) × (Nat → Int32)) => [(aM, .inr (8, [.ref aNw, .ref aKp, .ref aIk, .ref aRf, .int M_at, .int M_fault, .ref rM_values, .int M_valueMany, .ref rM_signs, .int M_signMany, .long M_tells, .int M_way, .int M_wish, .long M_moreTick, .long M_moreForce, .int M_runTurns, .long M_runFirst, .long M_runLast, .ref rM_was, .long M_peak, .long M_beside, .int M_besideAt])), (aNw, .inl (cNw, 139, .inr (.inl u.1))), (aKp, .inl (cKp, 278, .inr (.inl fKp))), (aIk, .inl (cIk, 2, .inl fIk)), (aRf, .inl (cRf, 3, .inl u.2))]) := by
  intro sz
  refine Met.ofW (cc := cX8_from) (maxL := 3) (ret := (some .int)) (by decide) rfl ?_
  intro p e s m args below meth c s₁ B hml hv
  obtain ⟨rfl, hv⟩ := hv
  obtain ⟨rfl, hK, hq, hA⟩ := kk_begin hv
  have hx := B.exec
  have hb := B.bytes
  have hr := B.returns
  have hts := atoms_spec (ws := (Cond.code yX8_from cX8_from 3 (some .int) :: wsL_law)) B.pre
  have hown : s.vm.findClass RX8 = some m.cls := findClass_of_methodNamed B.named
  have hlocks := B.notSynchronized
  have hsb : ∀ w ∈ wsL_law, w ∈ (Cond.code yX8_from cX8_from 3 (some .int) :: wsL_law) := fun _ h => List.mem_cons_of_mem _ h
  generalize va_A [(aM, .inr (8, [.ref aNw, .ref aKp, .ref aIk, .ref aRf, .int M_at, .int M_fault, .ref rM_values, .int M_valueMany, .ref rM_signs, .int M_signMany, .long M_tells, .int M_way, .int M_wish, .long M_moreTick, .long M_moreForce, .int M_runTurns, .long M_runFirst, .long M_runLast, .ref rM_was, .long M_peak, .long M_beside, .int M_besideAt])), (aNw, .inl (cNw, 139, .inr (.inl fNw))), (aKp, .inl (cKp, 278, .inr (.inl fKp))), (aIk, .inl (cIk, 2, .inl fIk)), (aRf, .inl (cRf, 3, .inl fRf))] s.heap.size = A at hq hA ⊢
  have iX8 : ∀ w ∈ u_ws RX8 TX8 22, w ∈ (Cond.code yX8_from cX8_from 3 (some .int) :: wsL_law) := fun w h => hsb w (bin_X8 w h)
  have lk0_ := hts _ (hsb _ wd_119)
  have lk1_ := hts _ (hsb _ wd_117)
  have lk2_ := hts _ (hsb _ wd_118)
  have lk3_ := hts _ (hsb _ wd_120)
  have hl := lv_entry ([.ref aM, .int p1]) (n := 3) (Nat.le_of_ble_eq_true rfl)
  rw [lg_entry_eq]
  generalize (lg_sl ([.ref aM, .int p1]) ++ List.replicate (3 - (lg_sl ([.ref aM, .int p1])).length) Slot.unset).toArray = ls at hl ⊢
  have hl : lv_has ls 3 [(0, .ref aM), (1, .int p1)] := hl
  refine lv_iload_n hx hb dX8_from_0 rfl (lv_at hl 1 rfl) ?_
  refine lv_i2l hx hb dX8_from_1 rfl ?_
  refine lv_lconst (v := 0) hx hb dX8_from_2 (by decide) ?_
  refine lv_lconst (v := 1) hx hb dX8_from_3 (by decide) ?_
  refine kk_Si (As := [.long p1.toInt64, .long 0, .long 1]) (rest := []) (wr := [(aM, .inr (8, [.ref aNw, .ref aKp, .ref aIk, .ref aRf, .int M_at, .int M_fault, .ref rM_values, .int M_valueMany, .ref rM_signs, .int M_signMany, .long M_tells, .int M_way, .int M_wish, .long M_moreTick, .long M_moreForce, .int M_runTurns, .long M_runFirst, .long M_runLast, .ref rM_was, .long M_peak, .long M_beside, .int M_besideAt])), (aNw, .inl (cNw, 139, .inr (.inl fNw))), (aKp, .inl (cKp, 278, .inr (.inl fKp))), (aIk, .inl (cIk, 2, .inl fIk)), (aRf, .inl (cRf, 3, .inl fRf))]) ⟨hx, hb, hml, hown, hts⟩ (c_X8_in l G p1.toInt64 0 1) (kk_cwS 3 hts hsb wd_156 wd_157 wd_5 wd_158 rfl rfl hd_X8_in ⟨Nat.le_of_ble_eq_true rfl, Nat.le_of_ble_eq_true rfl⟩) hA hK hq [] [0, 1, 2, 3, 4] [] rfl rfl rfl (by decide) (by decide) (by decide) rfl hl.1 rfl (Nat.le_of_ble_eq_true rfl) dX8_from_4 ⟨Nat.zero_le _, Nat.zero_le _⟩ (fun r_2 u_1 H locs h_3 hq => ?_)
  obtain ⟨er_2, zr_2⟩ := h_3
  have hq : kAt G A s [(aM, .inr (8, [.ref aNw, .ref aKp, .ref aIk, .ref aRf, .int M_at, .int M_fault, .ref rM_values, .int M_valueMany, .ref rM_signs, .int M_signMany, .long M_tells, .int M_way, .int M_wish, .long M_moreTick, .long M_moreForce, .int M_runTurns, .long M_runFirst, .long M_runLast, .ref rM_was, .long M_peak, .long M_beside, .int M_besideAt])), (aNw, .inl (cNw, 139, .inr (.inl fNw))), (aKp, .inl (cKp, 278, .inr (.inl fKp))), (aIk, .inl (cIk, 2, .inl fIk)), (aRf, .inl (cRf, 3, .inl fRf))] H locs := hq
  have hrw := er_2
  refine lv_if_ne (tgt := 17) hx hb dX8_from_7 (by decide) (fun c_4 => ?_) (fun c_4 => ?_)
  · skip
    have hw := in_i (hrw ▸ c_4)
    have w0 : 0 ≤ p1.toInt := hw.1
    have w1 : p1.toInt ≤ 1 := hw.2
    have w2 : p1.toInt < (2 : Nat) := by omega
    refine lv_aload_n hx hb dX8_from_17 rfl (lv_at hl 0 rfl) ?_
    refine kk_get (ci := 8) (v := .ref aIk) (C := RX8) (T := TX8) (N := 22) hx hb hts iX8 hown hK hq 0 rfl rfl 2 (by decide) lk0_ rfl dX8_from_18 ?_
    refine lv_iload_n hx hb dX8_from_21 rfl (lv_at hl 1 rfl) ?_
    refine kk_zald hx hb hK hq 3 2 rfl rfl p1.toNatClampNeg (kk_cl w0) (kk_clt w0 w2) (by decide) dX8_from_22 ?_
    refine lv_if_ne (tgt := 39) hx hb dX8_from_23 (by decide) (fun c_5 => ?_) (fun c_5 => ?_)
    · skip
      refine lv_iconst (v := 0) hx hb dX8_from_39 (by decide) ?_
      refine lv_istore_n (lv' := [(2, .int 0), (0, .ref aM), (1, .int p1)]) hx hb dX8_from_40 rfl hl (by decide) rfl (fun ls hl => ?_)
      refine kk_loop2 (fun N41 (i : Int32) (nf : Nat → Int64) (H : Heap) (locs : List Loc) (ls : Array Slot) => lpX8_from_41 p1 fKp (140) 0 fNw = lpX8_from_41 p1 fKp N41 i nf ∧ (0 ≤ i.toInt) ∧ (i.toInt ≤ 139) ∧ (i.toInt + N41 = 140) ∧ lv_has ls 3 [(2, .int i), (0, .ref aM), (1, .int p1)] ∧ kAt G A s [(aM, .inr (8, [.ref aNw, .ref aKp, .ref aIk, .ref aRf, .int M_at, .int M_fault, .ref rM_values, .int M_valueMany, .ref rM_signs, .int M_signMany, .long M_tells, .int M_way, .int M_wish, .long M_moreTick, .long M_moreForce, .int M_runTurns, .long M_runFirst, .long M_runLast, .ref rM_was, .long M_peak, .long M_beside, .int M_besideAt])), (aNw, .inl (cNw, 139, .inr (.inl nf))), (aKp, .inl (cKp, 278, .inr (.inl fKp))), (aIk, .inl (cIk, 2, .inl fIk)), (aRf, .inl (cRf, 3, .inl fRf))] H locs) 41 (fun i nf => []) (fun i nf H locs ls hv => ?_) (fun N41 i nf H locs ls ih41 hv => ?_) (140) 0 fNw _ _ _ ⟨rfl, (by decide), (by decide), (by decide), lv_sub hl [0, 1, 2] rfl, hq⟩
      · skip
        obtain ⟨hrel41, i0, i1, hN, hl, hq⟩ := hv
        omega
      · skip
        obtain ⟨hrel41, i0, i1, hN, hl, hq⟩ := hv
        refine lv_iload_n hx hb dX8_from_41 rfl (lv_at hl 0 rfl) ?_
        refine lv_sipush (v := 139) hx hb dX8_from_42 (by decide) ?_
        refine lv_icmp_ge (tgt := 72) hx hb dX8_from_45 (by decide) (fun c_6 => ?_) (fun c_6 => ?_)
        · skip
          have hx_7 : ((i, nf) : Int32 × (Nat → Int64)) = lpX8_from_41 p1 fKp (140) 0 fNw := (hrel41.trans ((if_pos c_6))).symm
          obtain ⟨z_8, gz_8⟩ : ∃ z : Int32 × (Nat → Int64), z = (i, nf) := ⟨_, rfl⟩
          have ez_8 : z_8 = lpX8_from_41 p1 fKp (140) 0 fNw := gz_8.trans hx_7
          have hl : lv_has ls 3 [(2, .int z_8.1), (0, .ref aM), (1, .int p1)] := by subst gz_8; exact hl
          have hq : kAt G A s [(aM, .inr (8, [.ref aNw, .ref aKp, .ref aIk, .ref aRf, .int M_at, .int M_fault, .ref rM_values, .int M_valueMany, .ref rM_signs, .int M_signMany, .long M_tells, .int M_way, .int M_wish, .long M_moreTick, .long M_moreForce, .int M_runTurns, .long M_runFirst, .long M_runLast, .ref rM_was, .long M_peak, .long M_beside, .int M_besideAt])), (aNw, .inl (cNw, 139, .inr (.inl z_8.2))), (aKp, .inl (cKp, 278, .inr (.inl fKp))), (aIk, .inl (cIk, 2, .inl fIk)), (aRf, .inl (cRf, 3, .inl fRf))] H locs := by subst gz_8; exact hq
          refine lv_iconst (v := 1) hx hb dX8_from_72 (by decide) ?_
          have hf : ((1, z_8.2, fRf) : Int32 × (Nat → Int64) × (Nat → Int32)) = fX8_from p1 fNw fKp fIk fRf := by
            exact ((congrArg (fun (r_2 : Int32) => ((if r_2 = 0 then (
    let r_14 : Int32 := (fX8_bad (-2) fRf).1
    let u_13 : Nat → Int32 := (fX8_bad (-2) fRf).2
    (r_14, fNw, u_13))
  else (
    if fIk p1.toNatClampNeg = 0 then (
      let w_11 : Int32 := (fRf 1) + 1
      let fRf_12 : Nat → Int32 := upd fRf 1 w_11
      ((-3), fNw, fRf_12))
    else (
      let z_8 : Int32 × (Nat → Int64) := lpX8_from_41 p1 fKp (140) 0 fNw
      (1, z_8.2, fRf)))) : Int32 × (Nat → Int64) × (Nat → Int32))) er_2.symm).trans ((if_neg c_4).trans ((if_neg c_5).trans ((congrArg (fun (z_8 : Int32 × (Nat → Int64)) => (((1, z_8.2, fRf)) : Int32 × (Nat → Int64) × (Nat → Int32))) ez_8.symm))))).symm
          have hf1 := congrArg Prod.fst hf
          have hf2 := congrArg Prod.snd hf
          exact kk_ei hx hb hr hlocks hK hq [0, 1, 2, 3, 4] (z_8.2, fRf) rfl (by decide) dX8_from_73 ⟨hf1, hf2⟩
        · skip
          have hi := kk_nle (k := 139) rfl c_6
          refine lv_aload_n hx hb dX8_from_48 rfl (lv_at hl 1 rfl) ?_
          refine kk_get (ci := 8) (v := .ref aNw) (C := RX8) (T := TX8) (N := 22) hx hb hts iX8 hown hK hq 0 rfl rfl 0 (by decide) lk1_ rfl dX8_from_49 ?_
          refine lv_iload_n hx hb dX8_from_52 rfl (lv_at hl 0 rfl) ?_
          refine lv_aload_n hx hb dX8_from_53 rfl (lv_at hl 1 rfl) ?_
          refine kk_get (ci := 8) (v := .ref aKp) (C := RX8) (T := TX8) (N := 22) hx hb hts iX8 hown hK hq 0 rfl rfl 1 (by decide) lk2_ rfl dX8_from_54 ?_
          refine lv_sipush (v := 139) hx hb dX8_from_57 (by decide) ?_
          refine lv_iload_n hx hb dX8_from_60 rfl (lv_at hl 2 rfl) ?_
          refine lv_imul hx hb dX8_from_61 ?_
          refine lv_iload_n hx hb dX8_from_62 rfl (lv_at hl 0 rfl) ?_
          refine lv_iadd hx hb dX8_from_63 ?_
          refine kk_lald hx hb hK hq 2 1 rfl rfl (139 * p1.toNatClampNeg + i.toNatClampNeg) (ix_139 w0 w1 i0 hi).1 (ix_139 w0 w1 i0 hi).2 (by decide) dX8_from_64 ?_
          refine lv_topl (fun w_9 ew_9 => ?_)
          refine kk_last (ws' := [(aM, .inr (8, [.ref aNw, .ref aKp, .ref aIk, .ref aRf, .int M_at, .int M_fault, .ref rM_values, .int M_valueMany, .ref rM_signs, .int M_signMany, .long M_tells, .int M_way, .int M_wish, .long M_moreTick, .long M_moreForce, .int M_runTurns, .long M_runFirst, .long M_runLast, .ref rM_was, .long M_peak, .long M_beside, .int M_besideAt])), (aNw, .inl (cNw, 139, .inr (.inl (vp_updL nf i.toNatClampNeg w_9)))), (aKp, .inl (cKp, 278, .inr (.inl fKp))), (aIk, .inl (cIk, 2, .inl fIk)), (aRf, .inl (cRf, 3, .inl fRf))]) hx hb hK hq 1 0 rfl rfl i.toNatClampNeg (kk_cl i0) (kk_clt i0 hi) (by decide) dX8_from_65 rfl (fun H locs hq => ?_)
          obtain ⟨fNw_10, efNw_10⟩ : ∃ z : Nat → Int64, z = vp_updL nf i.toNatClampNeg w_9 := ⟨_, rfl⟩
          rw [← efNw_10] at hq
          refine lv_iinc (v := i + 1) (lv' := [(2, .int (i + 1)), (0, .ref aM), (1, .int p1)]) hx hb dX8_from_66 hl (k := 0) rfl rfl (by decide) rfl (fun ls hl => ?_)
          refine lv_goto (tgt := 41) hx hb dX8_from_69 (by decide) ?_
          exact ih41 (i + 1) fNw_10 _ _ _ ⟨(hrel41.trans ((if_neg c_6).trans ((congrArg (fun (w_9 : Int64) => ((let fNw_8 : Nat → Int64 := vp_updL nf i.toNatClampNeg w_9
    lpX8_from_41 p1 fKp N41 (i + 1) fNw_8) : Int32 × (Nat → Int64))) ew_9.symm).trans ((congrArg (fun (fNw_10 : Nat → Int64) => ((lpX8_from_41 p1 fKp N41 (i + 1) fNw_10) : Int32 × (Nat → Int64))) efNw_10.symm))))), (by have := kk_inc (x := i) (by omega); omega), (by have := kk_inc (x := i) (by omega); omega), (by have := kk_inc (x := i) (by omega); omega), lv_sub hl [0, 1, 2] rfl, hq⟩
    · skip
      refine lv_aload_n hx hb dX8_from_26 rfl (lv_at hl 0 rfl) ?_
      refine kk_get (ci := 8) (v := .ref aRf) (C := RX8) (T := TX8) (N := 22) hx hb hts iX8 hown hK hq 0 rfl rfl 3 (by decide) lk3_ rfl dX8_from_27 ?_
      refine lv_iconst (v := 1) hx hb dX8_from_30 (by decide) ?_
      refine lv_dup2_11 hx hb dX8_from_31 rfl rfl ?_
      refine kk_iald hx hb hK hq 4 3 rfl rfl 1 rfl (by decide) (by decide) dX8_from_32 ?_
      refine lv_iconst (v := 1) hx hb dX8_from_33 (by decide) ?_
      refine lv_iadd hx hb dX8_from_34 ?_
      refine lv_topi (fun w_11 ew_11 => ?_)
      refine kk_iast (ws' := [(aM, .inr (8, [.ref aNw, .ref aKp, .ref aIk, .ref aRf, .int M_at, .int M_fault, .ref rM_values, .int M_valueMany, .ref rM_signs, .int M_signMany, .long M_tells, .int M_way, .int M_wish, .long M_moreTick, .long M_moreForce, .int M_runTurns, .long M_runFirst, .long M_runLast, .ref rM_was, .long M_peak, .long M_beside, .int M_besideAt])), (aNw, .inl (cNw, 139, .inr (.inl fNw))), (aKp, .inl (cKp, 278, .inr (.inl fKp))), (aIk, .inl (cIk, 2, .inl fIk)), (aRf, .inl (cRf, 3, .inl (upd fRf 1 w_11)))]) hx hb hK hq 4 3 rfl rfl 1 rfl (by decide) (by decide) dX8_from_35 rfl (fun H locs hq => ?_)
      obtain ⟨fRf_12, efRf_12⟩ : ∃ z : Nat → Int32, z = upd fRf 1 w_11 := ⟨_, rfl⟩
      rw [← efRf_12] at hq
      refine lv_bipush (v := -3) hx hb dX8_from_36 (by decide) ?_
      have hf : (((-3), fNw, fRf_12) : Int32 × (Nat → Int64) × (Nat → Int32)) = fX8_from p1 fNw fKp fIk fRf := by
        exact ((congrArg (fun (r_2 : Int32) => ((if r_2 = 0 then (
    let r_14 : Int32 := (fX8_bad (-2) fRf).1
    let u_13 : Nat → Int32 := (fX8_bad (-2) fRf).2
    (r_14, fNw, u_13))
  else (
    if fIk p1.toNatClampNeg = 0 then (
      let w_11 : Int32 := (fRf 1) + 1
      let fRf_12 : Nat → Int32 := upd fRf 1 w_11
      ((-3), fNw, fRf_12))
    else (
      let z_8 : Int32 × (Nat → Int64) := lpX8_from_41 p1 fKp (140) 0 fNw
      (1, z_8.2, fRf)))) : Int32 × (Nat → Int64) × (Nat → Int32))) er_2.symm).trans ((if_neg c_4).trans ((if_pos c_5).trans ((congrArg (fun (w_11 : Int32) => ((let fRf_12 : Nat → Int32 := upd fRf 1 w_11
  ((-3), fNw, fRf_12)) : Int32 × (Nat → Int64) × (Nat → Int32))) ew_11.symm).trans ((congrArg (fun (fRf_12 : Nat → Int32) => ((((-3), fNw, fRf_12)) : Int32 × (Nat → Int64) × (Nat → Int32))) efRf_12.symm)))))).symm
      have hf1 := congrArg Prod.fst hf
      have hf2 := congrArg Prod.snd hf
      exact kk_ei hx hb hr hlocks hK hq [0, 1, 2, 3, 4] (fNw, fRf_12) rfl (by decide) dX8_from_38 ⟨hf1, hf2⟩
  · skip
    refine lv_aload_n hx hb dX8_from_10 rfl (lv_at hl 0 rfl) ?_
    refine lv_bipush (v := -2) hx hb dX8_from_11 (by decide) ?_
    refine kk_Vi (As := [.int (-2)]) (rest := []) (wr := [(aNw, .inl (cNw, 139, .inr (.inl fNw))), (aKp, .inl (cKp, 278, .inr (.inl fKp))), (aIk, .inl (cIk, 2, .inl fIk))]) ⟨hx, hb, hml, hown, hts⟩ (c_X8_bad l G aM aRf aNw aKp aIk rM_values rM_signs rM_was cRf (-2) M_at M_fault M_valueMany M_signMany M_tells M_way M_wish M_moreTick M_moreForce M_runTurns M_runFirst M_runLast M_peak M_beside M_besideAt fRf) (kk_cwV 1 hts hsb wd_159 wd_160 wd_161 wd_5 wd_162 rfl rfl hd_X8_bad ⟨Nat.le_of_ble_eq_true rfl, Nat.le_of_ble_eq_true rfl⟩) hA hK hq [0, 4] [1, 2, 3] [3] rfl rfl rfl (by decide) (by decide) (by decide) 0 8 rfl rfl rfl rfl hl.1 rfl (Nat.le_of_ble_eq_true rfl) dX8_from_13 ⟨Nat.zero_le _, Nat.zero_le _⟩ (fun r_14 u_13 H locs h_15 hq => ?_)
    obtain ⟨er_14, eu_13⟩ := h_15
    have hq : kAt G A s [(aNw, .inl (cNw, 139, .inr (.inl fNw))), (aKp, .inl (cKp, 278, .inr (.inl fKp))), (aIk, .inl (cIk, 2, .inl fIk)), (aM, .inr (8, [.ref aNw, .ref aKp, .ref aIk, .ref aRf, .int M_at, .int M_fault, .ref rM_values, .int M_valueMany, .ref rM_signs, .int M_signMany, .long M_tells, .int M_way, .int M_wish, .long M_moreTick, .long M_moreForce, .int M_runTurns, .long M_runFirst, .long M_runLast, .ref rM_was, .long M_peak, .long M_beside, .int M_besideAt])), (aRf, .inl (cRf, 3, .inl u_13))] H locs := hq
    have hf : ((r_14, fNw, u_13) : Int32 × (Nat → Int64) × (Nat → Int32)) = fX8_from p1 fNw fKp fIk fRf := by
      exact ((congrArg (fun (r_2 : Int32) => ((if r_2 = 0 then (
    let r_14 : Int32 := (fX8_bad (-2) fRf).1
    let u_13 : Nat → Int32 := (fX8_bad (-2) fRf).2
    (r_14, fNw, u_13))
  else (
    if fIk p1.toNatClampNeg = 0 then (
      let w_11 : Int32 := (fRf 1) + 1
      let fRf_12 : Nat → Int32 := upd fRf 1 w_11
      ((-3), fNw, fRf_12))
    else (
      let z_8 : Int32 × (Nat → Int64) := lpX8_from_41 p1 fKp (140) 0 fNw
      (1, z_8.2, fRf)))) : Int32 × (Nat → Int64) × (Nat → Int32))) er_2.symm).trans ((if_pos c_4).trans ((congrArg (fun (r_14 : Int32) => ((let u_13 : Nat → Int32 := (fX8_bad (-2) fRf).2
  (r_14, fNw, u_13)) : Int32 × (Nat → Int64) × (Nat → Int32))) er_14.symm).trans ((congrArg (fun (u_13 : Nat → Int32) => (((r_14, fNw, u_13)) : Int32 × (Nat → Int64) × (Nat → Int32))) eu_13.symm))))).symm
    have hf1 := congrArg Prod.fst hf
    have hf2 := congrArg Prod.snd hf
    exact kk_ei hx hb hr hlocks hK hq [3, 0, 1, 2, 4] (fNw, u_13) rfl (by decide) dX8_from_16 ⟨hf1, hf2⟩
