theorem ll_eq (f : Nat → Int64) : fX8_lawLong f = (f 61).toInt32 := rfl
theorem pm_eq (f : Nat → Int64) : fX8_pushMany f = (f 122).toInt32 := rfl
theorem hd_X8_charAt : yX8_charAt.cls = RX8 ∧ yX8_charAt.cls ≠ "java/lang/invoke/MethodHandle" ∧ yX8_charAt.cls ≠ "java/lang/invoke/VarHandle" ∧ (parseMethodDescriptor yX8_charAt.desc).map (fun d => d.parameters.length) = some 1 := by decide +kernel
theorem hd_X8_lawLong : yX8_lawLong.cls = RX8 ∧ yX8_lawLong.cls ≠ "java/lang/invoke/MethodHandle" ∧ yX8_lawLong.cls ≠ "java/lang/invoke/VarHandle" ∧ (parseMethodDescriptor yX8_lawLong.desc).map (fun d => d.parameters.length) = some 0 := by decide +kernel
def lpX8_ahead_0 (fNw : Nat → Int64) : Nat → Int32 → Int32
  | 0, _ => 0
  | N + 1, at_ =>
    let r_2 : Int32 := fX8_lawLong fNw
    if r_2 ≤ at_ then (
    at_)
    else (
    let r_6 : Int32 := fX8_charAt at_ fNw
    if r_6 = 32 then (
    let at_9 : Int32 := at_ + 1
    lpX8_ahead_0 fNw N at_9)
    else (
    at_))

def fX8_ahead (M_at : Int32) (fNw : Nat → Int64) : Int32 × Int32 :=
  let z_21 : Int32 := lpX8_ahead_0 fNw (61) M_at
  let r_23 : Int32 := fX8_lawLong fNw
  let z0_26 : Int32 := if r_23 ≤ z_21 then (-1) else fX8_charAt z_21 fNw
  (z0_26, z_21)

set_option maxHeartbeats 4000000 in
set_option maxRecDepth 100000 in
theorem c_X8_ahead (l : Launch) (G : va_G) (aM aNw rM_kept rM_isKept rM_refused rM_values rM_signs rM_was : Nat) (cNw : ClassId) (M_at : Int32) (M_fault : Int32) (M_valueMany : Int32) (M_signMany : Int32) (M_tells : Int64) (M_way : Int32) (M_wish : Int32) (M_moreTick : Int64) (M_moreForce : Int64) (M_runTurns : Int32) (M_runFirst : Int64) (M_runLast : Int64) (M_peak : Int64) (M_beside : Int64) (M_besideAt : Int32) (fNw : Nat → Int64) (l0 : 0 ≤ (fNw 61).toInt32.toInt) (l1 : (fNw 61).toInt32.toInt ≤ 60) (q0 : 0 ≤ M_at.toInt) (q1 : M_at.toInt ≤ 60) : kCi l yX8_ahead (Cond.code yX8_ahead cX8_ahead 1 (some .int) :: wsL_law) ({ frames := 1, cells := 0, slots := 0, locals := 21 }) G [(cNw, .long)] [.ref aM] [(aM, .inr (8, [.ref aNw, .ref rM_kept, .ref rM_isKept, .ref rM_refused, .int M_at, .int M_fault, .ref rM_values, .int M_valueMany, .ref rM_signs, .int M_signMany, .long M_tells, .int M_way, .int M_wish, .long M_moreTick, .long M_moreForce, .int M_runTurns, .long M_runFirst, .long M_runLast, .ref rM_was, .long M_peak, .long M_beside, .int M_besideAt])), (aNw, .inl (cNw, 139, .inr (.inl fNw)))] (fun (r : Int32) (u : Int32) => r = (fX8_ahead M_at fNw).1 ∧ u = (fX8_ahead M_at fNw).2 ∧ (0 ≤ u.toInt) ∧ (u.toInt ≤ 60) ∧ ((r : Int32) = -1 ∨ (u.toInt < (fNw 61).toInt32.toInt ∧ (r : Int32) = fX8_charAt u fNw)) ∧ (M_at.toInt ≤ u.toInt)) (fun (u : Int32) => [(aM, .inr (8, [.ref aNw, .ref rM_kept, .ref rM_isKept, .ref rM_refused, .int u, .int M_fault, .ref rM_values, .int M_valueMany, .ref rM_signs, .int M_signMany, .long M_tells, .int M_way, .int M_wish, .long M_moreTick, .long M_moreForce, .int M_runTurns, .long M_runFirst, .long M_runLast, .ref rM_was, .long M_peak, .long M_beside, .int M_besideAt])), (aNw, .inl (cNw, 139, .inr (.inl fNw)))]) := by
  intro sz
  refine Met.ofW (cc := cX8_ahead) (maxL := 1) (ret := (some .int)) (by decide) rfl ?_
  intro p e s m args below meth c s₁ B hml hv
  obtain ⟨rfl, hv⟩ := hv
  obtain ⟨rfl, hK, hq, hA⟩ := kk_begin hv
  have hx := B.exec
  have hb := B.bytes
  have hr := B.returns
  have hts := atoms_spec (ws := (Cond.code yX8_ahead cX8_ahead 1 (some .int) :: wsL_law)) B.pre
  have hown : s.vm.findClass RX8 = some m.cls := findClass_of_methodNamed B.named
  have hlocks := B.notSynchronized
  have hsb : ∀ w ∈ wsL_law, w ∈ (Cond.code yX8_ahead cX8_ahead 1 (some .int) :: wsL_law) := fun _ h => List.mem_cons_of_mem _ h
  generalize va_A [(aM, .inr (8, [.ref aNw, .ref rM_kept, .ref rM_isKept, .ref rM_refused, .int M_at, .int M_fault, .ref rM_values, .int M_valueMany, .ref rM_signs, .int M_signMany, .long M_tells, .int M_way, .int M_wish, .long M_moreTick, .long M_moreForce, .int M_runTurns, .long M_runFirst, .long M_runLast, .ref rM_was, .long M_peak, .long M_beside, .int M_besideAt])), (aNw, .inl (cNw, 139, .inr (.inl fNw)))] s.heap.size = A at hq hA ⊢
  have iX8 : ∀ w ∈ u_ws RX8 TX8 22, w ∈ (Cond.code yX8_ahead cX8_ahead 1 (some .int) :: wsL_law) := fun w h => hsb w (bin_X8 w h)
  have lk0_ := hts _ (hsb _ wd_291)
  have hl := lv_entry ([.ref aM]) (n := 1) (Nat.le_of_ble_eq_true rfl)
  rw [lg_entry_eq]
  generalize (lg_sl ([.ref aM]) ++ List.replicate (1 - (lg_sl ([.ref aM])).length) Slot.unset).toArray = ls at hl ⊢
  have hl : lv_has ls 1 [(0, .ref aM)] := hl
  refine kk_loop1 (fun N0 (at_ : Int32) (H : Heap) (locs : List Loc) (ls : Array Slot) => lpX8_ahead_0 fNw (61) M_at = lpX8_ahead_0 fNw N0 at_ ∧ (0 ≤ at_.toInt) ∧ (at_.toInt ≤ 60) ∧ (M_at.toInt ≤ at_.toInt) ∧ (60 < at_.toInt + N0) ∧ lv_has ls 1 [(0, .ref aM)] ∧ kAt G A s [(aM, .inr (8, [.ref aNw, .ref rM_kept, .ref rM_isKept, .ref rM_refused, .int at_, .int M_fault, .ref rM_values, .int M_valueMany, .ref rM_signs, .int M_signMany, .long M_tells, .int M_way, .int M_wish, .long M_moreTick, .long M_moreForce, .int M_runTurns, .long M_runFirst, .long M_runLast, .ref rM_was, .long M_peak, .long M_beside, .int M_besideAt])), (aNw, .inl (cNw, 139, .inr (.inl fNw)))] H locs) 0 (fun at_ => []) (fun at_ H locs ls hv => ?_) (fun N0 at_ H locs ls ih0 hv => ?_) (61) M_at _ _ _ ⟨rfl, q0, q1, (Int.le_refl _), (by omega), lv_sub hl [0] rfl, hq⟩
  · skip
    obtain ⟨hrel0, ap0, ap1, am, hN, hl, hq⟩ := hv
    omega
  · skip
    obtain ⟨hrel0, ap0, ap1, am, hN, hl, hq⟩ := hv
    refine lv_aload_n hx hb dX8_ahead_0 rfl (lv_at hl 0 rfl) ?_
    refine kk_get (ci := 8) (v := .int at_) (C := RX8) (T := TX8) (N := 22) hx hb hts iX8 hown hK hq 0 rfl rfl 4 (by decide) lk0_ rfl dX8_ahead_1 ?_
    refine lv_aload_n hx hb dX8_ahead_4 rfl (lv_at hl 0 rfl) ?_
    refine kk_Vi (As := []) (rest := [.int at_]) (wr := []) ⟨hx, hb, hml, hown, hts⟩ (c_X8_lawLong l G aM aNw rM_kept rM_isKept rM_refused rM_values rM_signs rM_was cNw at_ M_fault M_valueMany M_signMany M_tells M_way M_wish M_moreTick M_moreForce M_runTurns M_runFirst M_runLast M_peak M_beside M_besideAt fNw) (kk_cwV 0 hts hsb wd_265 wd_266 wd_267 wd_5 wd_268 rfl rfl hd_X8_lawLong ⟨Nat.le_of_ble_eq_true rfl, Nat.le_of_ble_eq_true rfl⟩) hA hK hq [0, 1] [] [0] rfl rfl rfl (by decide) (by decide) (by decide) 0 8 rfl rfl rfl rfl hl.1 rfl (Nat.le_of_ble_eq_true rfl) dX8_ahead_5 ⟨Nat.zero_le _, Nat.zero_le _⟩ (fun r_2 u_1 H locs h_3 hq => ?_)
    have er_2 := h_3
    have hq : kAt G A s [(aM, .inr (8, [.ref aNw, .ref rM_kept, .ref rM_isKept, .ref rM_refused, .int at_, .int M_fault, .ref rM_values, .int M_valueMany, .ref rM_signs, .int M_signMany, .long M_tells, .int M_way, .int M_wish, .long M_moreTick, .long M_moreForce, .int M_runTurns, .long M_runFirst, .long M_runLast, .ref rM_was, .long M_peak, .long M_beside, .int M_besideAt])), (aNw, .inl (cNw, 139, .inr (.inl fNw)))] H locs := hq
    have hll := er_2
    refine lv_icmp_ge (tgt := 37) hx hb dX8_ahead_8 (by decide) (fun c_4 => ?_) (fun c_4 => ?_)
    · skip
      have hx_5 : (at_ : Int32) = lpX8_ahead_0 fNw (61) M_at := (hrel0.trans ((congrArg (fun (r_2 : Int32) => ((if r_2 ≤ at_ then (
    at_)
    else (
    let r_6 : Int32 := fX8_charAt at_ fNw
    if r_6 = 32 then (
    let at_9 : Int32 := at_ + 1
    lpX8_ahead_0 fNw N0 at_9)
    else (
    at_))) : Int32)) er_2.symm).trans ((if_pos c_4)))).symm
      obtain ⟨z_6, gz_6⟩ : ∃ z : Int32, z = at_ := ⟨_, rfl⟩
      have ez_6 : z_6 = lpX8_ahead_0 fNw (61) M_at := gz_6.trans hx_5
      have hl : lv_has ls 1 [(0, .ref aM)] := by subst gz_6; exact hl
      have hq : kAt G A s [(aM, .inr (8, [.ref aNw, .ref rM_kept, .ref rM_isKept, .ref rM_refused, .int z_6, .int M_fault, .ref rM_values, .int M_valueMany, .ref rM_signs, .int M_signMany, .long M_tells, .int M_way, .int M_wish, .long M_moreTick, .long M_moreForce, .int M_runTurns, .long M_runFirst, .long M_runLast, .ref rM_was, .long M_peak, .long M_beside, .int M_besideAt])), (aNw, .inl (cNw, 139, .inr (.inl fNw)))] H locs := by subst gz_6; exact hq
      have qmf : M_at.toInt ≤ z_6.toInt := by subst gz_6; exact am
      have q0f : 0 ≤ z_6.toInt := by subst gz_6; exact ap0
      have q1f : z_6.toInt ≤ 60 := by subst gz_6; exact ap1
      have hz60 : ∀ r : Int32, r = fX8_lawLong fNw → ¬ r ≤ z_6 → z_6.toInt < 60 := fun r e h => by rw [il_le, e, ll_eq] at h; omega
      refine lv_aload_n hx hb dX8_ahead_37 rfl (lv_at hl 0 rfl) ?_
      refine kk_get (ci := 8) (v := .int z_6) (C := RX8) (T := TX8) (N := 22) hx hb hts iX8 hown hK hq 0 rfl rfl 4 (by decide) lk0_ rfl dX8_ahead_38 ?_
      refine lv_aload_n hx hb dX8_ahead_41 rfl (lv_at hl 0 rfl) ?_
      refine kk_Vi (As := []) (rest := [.int z_6]) (wr := []) ⟨hx, hb, hml, hown, hts⟩ (c_X8_lawLong l G aM aNw rM_kept rM_isKept rM_refused rM_values rM_signs rM_was cNw z_6 M_fault M_valueMany M_signMany M_tells M_way M_wish M_moreTick M_moreForce M_runTurns M_runFirst M_runLast M_peak M_beside M_besideAt fNw) (kk_cwV 0 hts hsb wd_265 wd_266 wd_267 wd_5 wd_268 rfl rfl hd_X8_lawLong ⟨Nat.le_of_ble_eq_true rfl, Nat.le_of_ble_eq_true rfl⟩) hA hK hq [0, 1] [] [0] rfl rfl rfl (by decide) (by decide) (by decide) 0 8 rfl rfl rfl rfl hl.1 rfl (Nat.le_of_ble_eq_true rfl) dX8_ahead_42 ⟨Nat.zero_le _, Nat.zero_le _⟩ (fun r_8 u_7 H locs h_9 hq => ?_)
      have er_8 := h_9
      have hq : kAt G A s [(aM, .inr (8, [.ref aNw, .ref rM_kept, .ref rM_isKept, .ref rM_refused, .int z_6, .int M_fault, .ref rM_values, .int M_valueMany, .ref rM_signs, .int M_signMany, .long M_tells, .int M_way, .int M_wish, .long M_moreTick, .long M_moreForce, .int M_runTurns, .long M_runFirst, .long M_runLast, .ref rM_was, .long M_peak, .long M_beside, .int M_besideAt])), (aNw, .inl (cNw, 139, .inr (.inl fNw)))] H locs := hq
      have hl3 := er_8
      refine kk_join1 (fun (z0_11 : Int32) (H : Heap) (locs : List Loc) (ls : Array Slot) => z0_11 = (if r_8 ≤ z_6 then (-1) else fX8_charAt z_6 fNw) ∧ lv_has ls 1 [(0, .ref aM)] ∧ kAt G A s [(aM, .inr (8, [.ref aNw, .ref rM_kept, .ref rM_isKept, .ref rM_refused, .int z_6, .int M_fault, .ref rM_values, .int M_valueMany, .ref rM_signs, .int M_signMany, .long M_tells, .int M_way, .int M_wish, .long M_moreTick, .long M_moreForce, .int M_runTurns, .long M_runFirst, .long M_runLast, .ref rM_was, .long M_peak, .long M_beside, .int M_besideAt])), (aNw, .inl (cNw, 139, .inr (.inl fNw)))] H locs) 60 (fun z0_11 => [.int z0_11]) (fun z0_11 H locs ls hv => ?_) (fun J_12 => ?_)
      · skip
        obtain ⟨ez0_11, hl, hq⟩ := hv
        have hf : ((z0_11, z_6) : Int32 × Int32) = fX8_ahead M_at fNw := by
          exact ((congrArg (fun (z_6 : Int32) => ((let r_23 : Int32 := fX8_lawLong fNw
  let z0_26 : Int32 := if r_23 ≤ z_6 then (-1) else fX8_charAt z_6 fNw
  (z0_26, z_6)) : Int32 × Int32)) ez_6.symm).trans ((congrArg (fun (r_8 : Int32) => ((let z0_26 : Int32 := if r_8 ≤ z_6 then (-1) else fX8_charAt z_6 fNw
  (z0_26, z_6)) : Int32 × Int32)) er_8.symm).trans ((congrArg (fun (z0_11 : Int32) => (((z0_11, z_6)) : Int32 × Int32)) ez0_11.symm)))).symm
        have hf1 := congrArg Prod.fst hf
        have hf2 := congrArg Prod.snd hf
        have en_0 : 0 ≤ z_6.toInt := by first | assumption | omega
        have en_1 : z_6.toInt ≤ 60 := by first | assumption | omega
        have en_2 : (z0_11 : Int32) = -1 ∨ (z_6.toInt < (fNw 61).toInt32.toInt ∧ (z0_11 : Int32) = fX8_charAt z_6 fNw) := by rw [ez0_11]; split; (· exact Or.inl rfl); (· rename_i h; rw [il_le] at h; exact Or.inr ⟨by subst_vars; rw [ll_eq] at h; omega, rfl⟩)
        have en_3 : M_at.toInt ≤ z_6.toInt := by first | assumption | omega
        exact kk_ei hx hb hr hlocks hK hq [0, 1] z_6 rfl (by decide) dX8_ahead_60 ⟨hf1, hf2, en_0, en_1, en_2, en_3⟩
      · skip
        refine lv_icmp_ge (tgt := 59) hx hb dX8_ahead_45 (by decide) (fun c_10 => ?_) (fun c_10 => ?_)
        · skip
          refine lv_iconst (v := -1) hx hb dX8_ahead_59 (by decide) ?_
          exact J_12 (-1) _ _ _ ⟨(if_pos c_10).symm, lv_sub hl [0] rfl, hq⟩
        · skip
          have hlt := hz60 _ hl3 c_10
          refine lv_aload_n hx hb dX8_ahead_48 rfl (lv_at hl 0 rfl) ?_
          refine lv_aload_n hx hb dX8_ahead_49 rfl (lv_at hl 0 rfl) ?_
          refine kk_get (ci := 8) (v := .int z_6) (C := RX8) (T := TX8) (N := 22) hx hb hts iX8 hown hK hq 0 rfl rfl 4 (by decide) lk0_ rfl dX8_ahead_50 ?_
          refine kk_Vi (As := [.int z_6]) (rest := []) (wr := []) ⟨hx, hb, hml, hown, hts⟩ (c_X8_charAt l G aM aNw rM_kept rM_isKept rM_refused rM_values rM_signs rM_was cNw z_6 z_6 M_fault M_valueMany M_signMany M_tells M_way M_wish M_moreTick M_moreForce M_runTurns M_runFirst M_runLast M_peak M_beside M_besideAt fNw q0f hlt) (kk_cwV 1 hts hsb wd_301 wd_302 wd_303 wd_5 wd_304 rfl rfl hd_X8_charAt ⟨Nat.le_of_ble_eq_true rfl, Nat.le_of_ble_eq_true rfl⟩) hA hK hq [0, 1] [] [0] rfl rfl rfl (by decide) (by decide) (by decide) 0 8 rfl rfl rfl rfl hl.1 rfl (Nat.le_of_ble_eq_true rfl) dX8_ahead_53 ⟨Nat.zero_le _, Nat.zero_le _⟩ (fun r_14 u_13 H locs h_15 hq => ?_)
          obtain rfl := h_15
          have hq : kAt G A s [(aM, .inr (8, [.ref aNw, .ref rM_kept, .ref rM_isKept, .ref rM_refused, .int z_6, .int M_fault, .ref rM_values, .int M_valueMany, .ref rM_signs, .int M_signMany, .long M_tells, .int M_way, .int M_wish, .long M_moreTick, .long M_moreForce, .int M_runTurns, .long M_runFirst, .long M_runLast, .ref rM_was, .long M_peak, .long M_beside, .int M_besideAt])), (aNw, .inl (cNw, 139, .inr (.inl fNw)))] H locs := hq
          refine lv_goto (tgt := 60) hx hb dX8_ahead_56 (by decide) ?_
          exact J_12 (fX8_charAt z_6 fNw) _ _ _ ⟨(if_neg c_10).symm, lv_sub hl [0] rfl, hq⟩
    · skip
      have hlt : at_.toInt < 60 := by have h := c_4; rw [il_le, hll] at h; have e0 : fX8_lawLong fNw = (fNw 61).toInt32 := rfl; rw [e0] at h; omega
      refine lv_aload_n hx hb dX8_ahead_11 rfl (lv_at hl 0 rfl) ?_
      refine lv_aload_n hx hb dX8_ahead_12 rfl (lv_at hl 0 rfl) ?_
      refine kk_get (ci := 8) (v := .int at_) (C := RX8) (T := TX8) (N := 22) hx hb hts iX8 hown hK hq 0 rfl rfl 4 (by decide) lk0_ rfl dX8_ahead_13 ?_
      refine kk_Vi (As := [.int at_]) (rest := []) (wr := []) ⟨hx, hb, hml, hown, hts⟩ (c_X8_charAt l G aM aNw rM_kept rM_isKept rM_refused rM_values rM_signs rM_was cNw at_ at_ M_fault M_valueMany M_signMany M_tells M_way M_wish M_moreTick M_moreForce M_runTurns M_runFirst M_runLast M_peak M_beside M_besideAt fNw ap0 hlt) (kk_cwV 1 hts hsb wd_301 wd_302 wd_303 wd_5 wd_304 rfl rfl hd_X8_charAt ⟨Nat.le_of_ble_eq_true rfl, Nat.le_of_ble_eq_true rfl⟩) hA hK hq [0, 1] [] [0] rfl rfl rfl (by decide) (by decide) (by decide) 0 8 rfl rfl rfl rfl hl.1 rfl (Nat.le_of_ble_eq_true rfl) dX8_ahead_16 ⟨Nat.zero_le _, Nat.zero_le _⟩ (fun r_17 u_16 H locs h_18 hq => ?_)
      have er_17 := h_18
      have hq : kAt G A s [(aM, .inr (8, [.ref aNw, .ref rM_kept, .ref rM_isKept, .ref rM_refused, .int at_, .int M_fault, .ref rM_values, .int M_valueMany, .ref rM_signs, .int M_signMany, .long M_tells, .int M_way, .int M_wish, .long M_moreTick, .long M_moreForce, .int M_runTurns, .long M_runFirst, .long M_runLast, .ref rM_was, .long M_peak, .long M_beside, .int M_besideAt])), (aNw, .inl (cNw, 139, .inr (.inl fNw)))] H locs := hq
      refine lv_bipush (v := 32) hx hb dX8_ahead_19 (by decide) ?_
      refine lv_icmp_ne (tgt := 37) hx hb dX8_ahead_21 (by decide) (fun c_19 => ?_) (fun c_19 => ?_)
      · skip
        have hx_20 : (at_ : Int32) = lpX8_ahead_0 fNw (61) M_at := (hrel0.trans ((congrArg (fun (r_2 : Int32) => ((if r_2 ≤ at_ then (
    at_)
    else (
    let r_6 : Int32 := fX8_charAt at_ fNw
    if r_6 = 32 then (
    let at_9 : Int32 := at_ + 1
    lpX8_ahead_0 fNw N0 at_9)
    else (
    at_))) : Int32)) er_2.symm).trans ((if_neg c_4).trans ((congrArg (fun (r_17 : Int32) => ((if r_17 = 32 then (
    let at_9 : Int32 := at_ + 1
    lpX8_ahead_0 fNw N0 at_9)
    else (
    at_)) : Int32)) er_17.symm).trans ((if_neg c_19)))))).symm
        obtain ⟨z_21, gz_21⟩ : ∃ z : Int32, z = at_ := ⟨_, rfl⟩
        have ez_21 : z_21 = lpX8_ahead_0 fNw (61) M_at := gz_21.trans hx_20
        have hl : lv_has ls 1 [(0, .ref aM)] := by subst gz_21; exact hl
        have hq : kAt G A s [(aM, .inr (8, [.ref aNw, .ref rM_kept, .ref rM_isKept, .ref rM_refused, .int z_21, .int M_fault, .ref rM_values, .int M_valueMany, .ref rM_signs, .int M_signMany, .long M_tells, .int M_way, .int M_wish, .long M_moreTick, .long M_moreForce, .int M_runTurns, .long M_runFirst, .long M_runLast, .ref rM_was, .long M_peak, .long M_beside, .int M_besideAt])), (aNw, .inl (cNw, 139, .inr (.inl fNw)))] H locs := by subst gz_21; exact hq
        have qmf : M_at.toInt ≤ z_21.toInt := by subst gz_21; exact am
        have q0f : 0 ≤ z_21.toInt := by subst gz_21; exact ap0
        have q1f : z_21.toInt ≤ 60 := by subst gz_21; exact ap1
        have hz60 : ∀ r : Int32, r = fX8_lawLong fNw → ¬ r ≤ z_21 → z_21.toInt < 60 := fun r e h => by rw [il_le, e, ll_eq] at h; omega
        refine lv_aload_n hx hb dX8_ahead_37 rfl (lv_at hl 0 rfl) ?_
        refine kk_get (ci := 8) (v := .int z_21) (C := RX8) (T := TX8) (N := 22) hx hb hts iX8 hown hK hq 0 rfl rfl 4 (by decide) lk0_ rfl dX8_ahead_38 ?_
        refine lv_aload_n hx hb dX8_ahead_41 rfl (lv_at hl 0 rfl) ?_
        refine kk_Vi (As := []) (rest := [.int z_21]) (wr := []) ⟨hx, hb, hml, hown, hts⟩ (c_X8_lawLong l G aM aNw rM_kept rM_isKept rM_refused rM_values rM_signs rM_was cNw z_21 M_fault M_valueMany M_signMany M_tells M_way M_wish M_moreTick M_moreForce M_runTurns M_runFirst M_runLast M_peak M_beside M_besideAt fNw) (kk_cwV 0 hts hsb wd_265 wd_266 wd_267 wd_5 wd_268 rfl rfl hd_X8_lawLong ⟨Nat.le_of_ble_eq_true rfl, Nat.le_of_ble_eq_true rfl⟩) hA hK hq [0, 1] [] [0] rfl rfl rfl (by decide) (by decide) (by decide) 0 8 rfl rfl rfl rfl hl.1 rfl (Nat.le_of_ble_eq_true rfl) dX8_ahead_42 ⟨Nat.zero_le _, Nat.zero_le _⟩ (fun r_23 u_22 H locs h_24 hq => ?_)
        have er_23 := h_24
        have hq : kAt G A s [(aM, .inr (8, [.ref aNw, .ref rM_kept, .ref rM_isKept, .ref rM_refused, .int z_21, .int M_fault, .ref rM_values, .int M_valueMany, .ref rM_signs, .int M_signMany, .long M_tells, .int M_way, .int M_wish, .long M_moreTick, .long M_moreForce, .int M_runTurns, .long M_runFirst, .long M_runLast, .ref rM_was, .long M_peak, .long M_beside, .int M_besideAt])), (aNw, .inl (cNw, 139, .inr (.inl fNw)))] H locs := hq
        have hl3 := er_23
        refine kk_join1 (fun (z0_26 : Int32) (H : Heap) (locs : List Loc) (ls : Array Slot) => z0_26 = (if r_23 ≤ z_21 then (-1) else fX8_charAt z_21 fNw) ∧ lv_has ls 1 [(0, .ref aM)] ∧ kAt G A s [(aM, .inr (8, [.ref aNw, .ref rM_kept, .ref rM_isKept, .ref rM_refused, .int z_21, .int M_fault, .ref rM_values, .int M_valueMany, .ref rM_signs, .int M_signMany, .long M_tells, .int M_way, .int M_wish, .long M_moreTick, .long M_moreForce, .int M_runTurns, .long M_runFirst, .long M_runLast, .ref rM_was, .long M_peak, .long M_beside, .int M_besideAt])), (aNw, .inl (cNw, 139, .inr (.inl fNw)))] H locs) 60 (fun z0_26 => [.int z0_26]) (fun z0_26 H locs ls hv => ?_) (fun J_27 => ?_)
        · skip
          obtain ⟨ez0_26, hl, hq⟩ := hv
          have hf : ((z0_26, z_21) : Int32 × Int32) = fX8_ahead M_at fNw := by
            exact ((congrArg (fun (z_21 : Int32) => ((let r_23 : Int32 := fX8_lawLong fNw
  let z0_26 : Int32 := if r_23 ≤ z_21 then (-1) else fX8_charAt z_21 fNw
  (z0_26, z_21)) : Int32 × Int32)) ez_21.symm).trans ((congrArg (fun (r_23 : Int32) => ((let z0_26 : Int32 := if r_23 ≤ z_21 then (-1) else fX8_charAt z_21 fNw
  (z0_26, z_21)) : Int32 × Int32)) er_23.symm).trans ((congrArg (fun (z0_26 : Int32) => (((z0_26, z_21)) : Int32 × Int32)) ez0_26.symm)))).symm
          have hf1 := congrArg Prod.fst hf
          have hf2 := congrArg Prod.snd hf
          have en_0 : 0 ≤ z_21.toInt := by first | assumption | omega
          have en_1 : z_21.toInt ≤ 60 := by first | assumption | omega
          have en_2 : (z0_26 : Int32) = -1 ∨ (z_21.toInt < (fNw 61).toInt32.toInt ∧ (z0_26 : Int32) = fX8_charAt z_21 fNw) := by rw [ez0_26]; split; (· exact Or.inl rfl); (· rename_i h; rw [il_le] at h; exact Or.inr ⟨by subst_vars; rw [ll_eq] at h; omega, rfl⟩)
          have en_3 : M_at.toInt ≤ z_21.toInt := by first | assumption | omega
          exact kk_ei hx hb hr hlocks hK hq [0, 1] z_21 rfl (by decide) dX8_ahead_60 ⟨hf1, hf2, en_0, en_1, en_2, en_3⟩
        · skip
          refine lv_icmp_ge (tgt := 59) hx hb dX8_ahead_45 (by decide) (fun c_25 => ?_) (fun c_25 => ?_)
          · skip
            refine lv_iconst (v := -1) hx hb dX8_ahead_59 (by decide) ?_
            exact J_27 (-1) _ _ _ ⟨(if_pos c_25).symm, lv_sub hl [0] rfl, hq⟩
          · skip
            have hlt := hz60 _ hl3 c_25
            refine lv_aload_n hx hb dX8_ahead_48 rfl (lv_at hl 0 rfl) ?_
            refine lv_aload_n hx hb dX8_ahead_49 rfl (lv_at hl 0 rfl) ?_
            refine kk_get (ci := 8) (v := .int z_21) (C := RX8) (T := TX8) (N := 22) hx hb hts iX8 hown hK hq 0 rfl rfl 4 (by decide) lk0_ rfl dX8_ahead_50 ?_
            refine kk_Vi (As := [.int z_21]) (rest := []) (wr := []) ⟨hx, hb, hml, hown, hts⟩ (c_X8_charAt l G aM aNw rM_kept rM_isKept rM_refused rM_values rM_signs rM_was cNw z_21 z_21 M_fault M_valueMany M_signMany M_tells M_way M_wish M_moreTick M_moreForce M_runTurns M_runFirst M_runLast M_peak M_beside M_besideAt fNw q0f hlt) (kk_cwV 1 hts hsb wd_301 wd_302 wd_303 wd_5 wd_304 rfl rfl hd_X8_charAt ⟨Nat.le_of_ble_eq_true rfl, Nat.le_of_ble_eq_true rfl⟩) hA hK hq [0, 1] [] [0] rfl rfl rfl (by decide) (by decide) (by decide) 0 8 rfl rfl rfl rfl hl.1 rfl (Nat.le_of_ble_eq_true rfl) dX8_ahead_53 ⟨Nat.zero_le _, Nat.zero_le _⟩ (fun r_29 u_28 H locs h_30 hq => ?_)
            obtain rfl := h_30
            have hq : kAt G A s [(aM, .inr (8, [.ref aNw, .ref rM_kept, .ref rM_isKept, .ref rM_refused, .int z_21, .int M_fault, .ref rM_values, .int M_valueMany, .ref rM_signs, .int M_signMany, .long M_tells, .int M_way, .int M_wish, .long M_moreTick, .long M_moreForce, .int M_runTurns, .long M_runFirst, .long M_runLast, .ref rM_was, .long M_peak, .long M_beside, .int M_besideAt])), (aNw, .inl (cNw, 139, .inr (.inl fNw)))] H locs := hq
            refine lv_goto (tgt := 60) hx hb dX8_ahead_56 (by decide) ?_
            exact J_27 (fX8_charAt z_21 fNw) _ _ _ ⟨(if_neg c_25).symm, lv_sub hl [0] rfl, hq⟩
      · skip
        refine lv_aload_n hx hb dX8_ahead_24 rfl (lv_at hl 0 rfl) ?_
        refine lv_dup hx hb dX8_ahead_25 rfl ?_
        refine kk_get (ci := 8) (v := .int at_) (C := RX8) (T := TX8) (N := 22) hx hb hts iX8 hown hK hq 0 rfl rfl 4 (by decide) lk0_ rfl dX8_ahead_26 ?_
        refine lv_iconst (v := 1) hx hb dX8_ahead_29 (by decide) ?_
        refine lv_iadd hx hb dX8_ahead_30 ?_
        refine lv_topi (fun at_31 eat_31 => ?_)
        refine kk_put (ws' := [(aM, .inr (8, [.ref aNw, .ref rM_kept, .ref rM_isKept, .ref rM_refused, .int at_31, .int M_fault, .ref rM_values, .int M_valueMany, .ref rM_signs, .int M_signMany, .long M_tells, .int M_way, .int M_wish, .long M_moreTick, .long M_moreForce, .int M_runTurns, .long M_runFirst, .long M_runLast, .ref rM_was, .long M_peak, .long M_beside, .int M_besideAt])), (aNw, .inl (cNw, 139, .inr (.inl fNw)))]) (ci := 8) (v := .int at_31) (C := RX8) (T := TX8) (N := 22) hx hb hts iX8 tyX8_ok nmX8 hown hK hq 0 rfl rfl 4 (by decide) lk0_ rfl rfl rfl (Nat.le_of_ble_eq_true rfl) dX8_ahead_31 rfl (fun H locs hq => ?_)
        have hat_31 := at_inc eat_31 ap0 hlt
        have q0at_31 : 0 ≤ at_31.toInt := hat_31.1
        have q1at_31 : at_31.toInt ≤ 60 := hat_31.2
        refine lv_goto (tgt := 0) hx hb dX8_ahead_34 (by decide) ?_
        exact ih0 at_31 _ _ _ ⟨(hrel0.trans ((congrArg (fun (r_2 : Int32) => ((if r_2 ≤ at_ then (
    at_)
    else (
    let r_6 : Int32 := fX8_charAt at_ fNw
    if r_6 = 32 then (
    let at_9 : Int32 := at_ + 1
    lpX8_ahead_0 fNw N0 at_9)
    else (
    at_))) : Int32)) er_2.symm).trans ((if_neg c_4).trans ((congrArg (fun (r_17 : Int32) => ((if r_17 = 32 then (
    let at_9 : Int32 := at_ + 1
    lpX8_ahead_0 fNw N0 at_9)
    else (
    at_)) : Int32)) er_17.symm).trans ((if_pos c_19).trans ((congrArg (fun (at_31 : Int32) => ((lpX8_ahead_0 fNw N0 at_31) : Int32)) eat_31.symm))))))), (by assumption), (by assumption), (by rw [eat_31]; have := kk_inc (x := at_) (by omega); omega), (by rw [eat_31]; have := kk_inc (x := at_) (by omega); omega), lv_sub hl [0] rfl, hq⟩
def fX8_write (p1 : Int32) (fNw : Nat → Int64) (fRf : Nat → Int32) : Int32 × (Nat → Int64) × (Nat → Int32) :=
  let r_2 : Int32 := fX8_in p1.toInt64 0 127
  if r_2 = 0 then (
    let r_16 : Int32 := (fX8_bad (-2) fRf).1
    let u_15 : Nat → Int32 := (fX8_bad (-2) fRf).2
    (r_16, fNw, u_15))
  else (
    let r_6 : Int32 := fX8_lawLong fNw
    if r_6 = 60 then (
      ((-4), fNw, upd fRf 2 ((fRf 2) + 1)))
    else (
      let r_10 : Int32 := fX8_lawLong fNw
      let r_13 : Int32 := fX8_lawLong (vp_updL (vp_updL fNw (62 + r_10.toNatClampNeg) p1.toInt64) 61 (((vp_updL fNw (62 + r_10.toNatClampNeg) p1.toInt64) 61) + 1))
      (r_13, vp_updL (vp_updL fNw (62 + r_10.toNatClampNeg) p1.toInt64) 61 (((vp_updL fNw (62 + r_10.toNatClampNeg) p1.toInt64) 61) + 1), fRf)))

set_option maxHeartbeats 4000000 in
set_option maxRecDepth 100000 in
theorem c_X8_write (l : Launch) (G : va_G) (aM aNw aRf rM_kept rM_isKept rM_values rM_signs rM_was : Nat) (cNw cRf : ClassId) (p1 : Int32) (M_at : Int32) (M_fault : Int32) (M_valueMany : Int32) (M_signMany : Int32) (M_tells : Int64) (M_way : Int32) (M_wish : Int32) (M_moreTick : Int64) (M_moreForce : Int64) (M_runTurns : Int32) (M_runFirst : Int64) (M_runLast : Int64) (M_peak : Int64) (M_beside : Int64) (M_besideAt : Int32) (fNw : Nat → Int64) (fRf : Nat → Int32) (l0 : 0 ≤ (fNw 61).toInt32.toInt) (l1 : (fNw 61).toInt32.toInt ≤ 60) : kCi l yX8_write (Cond.code yX8_write cX8_write 2 (some .int) :: wsL_law) ({ frames := 1, cells := 0, slots := 0, locals := 25 }) G [(cNw, .long), (cRf, .int)] [.ref aM, .int p1] [(aM, .inr (8, [.ref aNw, .ref rM_kept, .ref rM_isKept, .ref aRf, .int M_at, .int M_fault, .ref rM_values, .int M_valueMany, .ref rM_signs, .int M_signMany, .long M_tells, .int M_way, .int M_wish, .long M_moreTick, .long M_moreForce, .int M_runTurns, .long M_runFirst, .long M_runLast, .ref rM_was, .long M_peak, .long M_beside, .int M_besideAt])), (aNw, .inl (cNw, 139, .inr (.inl fNw))), (aRf, .inl (cRf, 3, .inl fRf))] (fun (r : Int32) (u : (Nat → Int64) × (Nat → Int32)) => r = (fX8_write p1 fNw fRf).1 ∧ u = (fX8_write p1 fNw fRf).2) (fun (u : (Nat → Int64) × (Nat → Int32)) => [(aM, .inr (8, [.ref aNw, .ref rM_kept, .ref rM_isKept, .ref aRf, .int M_at, .int M_fault, .ref rM_values, .int M_valueMany, .ref rM_signs, .int M_signMany, .long M_tells, .int M_way, .int M_wish, .long M_moreTick, .long M_moreForce, .int M_runTurns, .long M_runFirst, .long M_runLast, .ref rM_was, .long M_peak, .long M_beside, .int M_besideAt])), (aNw, .inl (cNw, 139, .inr (.inl u.1))), (aRf, .inl (cRf, 3, .inl u.2))]) := by
  intro sz
  refine Met.ofW (cc := cX8_write) (maxL := 2) (ret := (some .int)) (by decide) rfl ?_
  intro p e s m args below meth c s₁ B hml hv
  obtain ⟨rfl, hv⟩ := hv
  obtain ⟨rfl, hK, hq, hA⟩ := kk_begin hv
  have hx := B.exec
  have hb := B.bytes
  have hr := B.returns
  have hts := atoms_spec (ws := (Cond.code yX8_write cX8_write 2 (some .int) :: wsL_law)) B.pre
  have hown : s.vm.findClass RX8 = some m.cls := findClass_of_methodNamed B.named
  have hlocks := B.notSynchronized
  have hsb : ∀ w ∈ wsL_law, w ∈ (Cond.code yX8_write cX8_write 2 (some .int) :: wsL_law) := fun _ h => List.mem_cons_of_mem _ h
  generalize va_A [(aM, .inr (8, [.ref aNw, .ref rM_kept, .ref rM_isKept, .ref aRf, .int M_at, .int M_fault, .ref rM_values, .int M_valueMany, .ref rM_signs, .int M_signMany, .long M_tells, .int M_way, .int M_wish, .long M_moreTick, .long M_moreForce, .int M_runTurns, .long M_runFirst, .long M_runLast, .ref rM_was, .long M_peak, .long M_beside, .int M_besideAt])), (aNw, .inl (cNw, 139, .inr (.inl fNw))), (aRf, .inl (cRf, 3, .inl fRf))] s.heap.size = A at hq hA ⊢
  have iX8 : ∀ w ∈ u_ws RX8 TX8 22, w ∈ (Cond.code yX8_write cX8_write 2 (some .int) :: wsL_law) := fun w h => hsb w (bin_X8 w h)
  have lk0_ := hts _ (hsb _ wd_264)
  have lk1_ := hts _ (hsb _ wd_117)
  have lk2_ := hts _ (hsb _ wd_120)
  have hl := lv_entry ([.ref aM, .int p1]) (n := 2) (Nat.le_of_ble_eq_true rfl)
  rw [lg_entry_eq]
  generalize (lg_sl ([.ref aM, .int p1]) ++ List.replicate (2 - (lg_sl ([.ref aM, .int p1])).length) Slot.unset).toArray = ls at hl ⊢
  have hl : lv_has ls 2 [(0, .ref aM), (1, .int p1)] := hl
  refine lv_iload_n hx hb dX8_write_0 rfl (lv_at hl 1 rfl) ?_
  refine lv_i2l hx hb dX8_write_1 rfl ?_
  refine lv_lconst (v := 0) hx hb dX8_write_2 (by decide) ?_
  refine lv_ldc2 hx hb hown lk0_ dX8_write_3 ?_
  refine kk_Si (As := [.long p1.toInt64, .long 0, .long 127]) (rest := []) (wr := [(aM, .inr (8, [.ref aNw, .ref rM_kept, .ref rM_isKept, .ref aRf, .int M_at, .int M_fault, .ref rM_values, .int M_valueMany, .ref rM_signs, .int M_signMany, .long M_tells, .int M_way, .int M_wish, .long M_moreTick, .long M_moreForce, .int M_runTurns, .long M_runFirst, .long M_runLast, .ref rM_was, .long M_peak, .long M_beside, .int M_besideAt])), (aNw, .inl (cNw, 139, .inr (.inl fNw))), (aRf, .inl (cRf, 3, .inl fRf))]) ⟨hx, hb, hml, hown, hts⟩ (c_X8_in l G p1.toInt64 0 127) (kk_cwS 3 hts hsb wd_156 wd_157 wd_5 wd_158 rfl rfl hd_X8_in ⟨Nat.le_of_ble_eq_true rfl, Nat.le_of_ble_eq_true rfl⟩) hA hK hq [] [0, 1, 2] [] rfl rfl rfl (by decide) (by decide) (by decide) rfl hl.1 rfl (Nat.le_of_ble_eq_true rfl) dX8_write_6 ⟨Nat.zero_le _, Nat.zero_le _⟩ (fun r_2 u_1 H locs h_3 hq => ?_)
  obtain ⟨er_2, zr_2⟩ := h_3
  have hq : kAt G A s [(aM, .inr (8, [.ref aNw, .ref rM_kept, .ref rM_isKept, .ref aRf, .int M_at, .int M_fault, .ref rM_values, .int M_valueMany, .ref rM_signs, .int M_signMany, .long M_tells, .int M_way, .int M_wish, .long M_moreTick, .long M_moreForce, .int M_runTurns, .long M_runFirst, .long M_runLast, .ref rM_was, .long M_peak, .long M_beside, .int M_besideAt])), (aNw, .inl (cNw, 139, .inr (.inl fNw))), (aRf, .inl (cRf, 3, .inl fRf))] H locs := hq
  refine lv_if_ne (tgt := 19) hx hb dX8_write_9 (by decide) (fun c_4 => ?_) (fun c_4 => ?_)
  · skip
    refine lv_aload_n hx hb dX8_write_19 rfl (lv_at hl 0 rfl) ?_
    refine kk_Vi (As := []) (rest := []) (wr := [(aRf, .inl (cRf, 3, .inl fRf))]) ⟨hx, hb, hml, hown, hts⟩ (c_X8_lawLong l G aM aNw rM_kept rM_isKept aRf rM_values rM_signs rM_was cNw M_at M_fault M_valueMany M_signMany M_tells M_way M_wish M_moreTick M_moreForce M_runTurns M_runFirst M_runLast M_peak M_beside M_besideAt fNw) (kk_cwV 0 hts hsb wd_265 wd_266 wd_267 wd_5 wd_268 rfl rfl hd_X8_lawLong ⟨Nat.le_of_ble_eq_true rfl, Nat.le_of_ble_eq_true rfl⟩) hA hK hq [0, 1] [2] [0] rfl rfl rfl (by decide) (by decide) (by decide) 0 8 rfl rfl rfl rfl hl.1 rfl (Nat.le_of_ble_eq_true rfl) dX8_write_20 ⟨Nat.zero_le _, Nat.zero_le _⟩ (fun r_6 u_5 H locs h_7 hq => ?_)
    have er_6 := h_7
    have hq : kAt G A s [(aRf, .inl (cRf, 3, .inl fRf)), (aM, .inr (8, [.ref aNw, .ref rM_kept, .ref rM_isKept, .ref aRf, .int M_at, .int M_fault, .ref rM_values, .int M_valueMany, .ref rM_signs, .int M_signMany, .long M_tells, .int M_way, .int M_wish, .long M_moreTick, .long M_moreForce, .int M_runTurns, .long M_runFirst, .long M_runLast, .ref rM_was, .long M_peak, .long M_beside, .int M_besideAt])), (aNw, .inl (cNw, 139, .inr (.inl fNw)))] H locs := hq
    have hl1 := er_6
    refine lv_bipush (v := 60) hx hb dX8_write_23 (by decide) ?_
    refine lv_icmp_ne (tgt := 41) hx hb dX8_write_25 (by decide) (fun c_8 => ?_) (fun c_8 => ?_)
    · skip
      have hne := c_8
      refine lv_aload_n hx hb dX8_write_41 rfl (lv_at hl 0 rfl) ?_
      refine kk_get (ci := 8) (v := .ref aNw) (C := RX8) (T := TX8) (N := 22) hx hb hts iX8 hown hK hq 1 rfl rfl 0 (by decide) lk1_ rfl dX8_write_42 ?_
      refine lv_bipush (v := 62) hx hb dX8_write_45 (by decide) ?_
      refine lv_aload_n hx hb dX8_write_47 rfl (lv_at hl 0 rfl) ?_
      refine kk_Vi (As := []) (rest := [.int 62, .ref aNw]) (wr := [(aRf, .inl (cRf, 3, .inl fRf))]) ⟨hx, hb, hml, hown, hts⟩ (c_X8_lawLong l G aM aNw rM_kept rM_isKept aRf rM_values rM_signs rM_was cNw M_at M_fault M_valueMany M_signMany M_tells M_way M_wish M_moreTick M_moreForce M_runTurns M_runFirst M_runLast M_peak M_beside M_besideAt fNw) (kk_cwV 0 hts hsb wd_265 wd_266 wd_267 wd_5 wd_268 rfl rfl hd_X8_lawLong ⟨Nat.le_of_ble_eq_true rfl, Nat.le_of_ble_eq_true rfl⟩) hA hK hq [1, 2] [0] [0] rfl rfl rfl (by decide) (by decide) (by decide) 0 8 rfl rfl rfl rfl hl.1 rfl (Nat.le_of_ble_eq_true rfl) dX8_write_48 ⟨Nat.zero_le _, Nat.zero_le _⟩ (fun r_10 u_9 H locs h_11 hq => ?_)
      have er_10 := h_11
      have hq : kAt G A s [(aRf, .inl (cRf, 3, .inl fRf)), (aM, .inr (8, [.ref aNw, .ref rM_kept, .ref rM_isKept, .ref aRf, .int M_at, .int M_fault, .ref rM_values, .int M_valueMany, .ref rM_signs, .int M_signMany, .long M_tells, .int M_way, .int M_wish, .long M_moreTick, .long M_moreForce, .int M_runTurns, .long M_runFirst, .long M_runLast, .ref rM_was, .long M_peak, .long M_beside, .int M_besideAt])), (aNw, .inl (cNw, 139, .inr (.inl fNw)))] H locs := hq
      have a0r_10 : 0 ≤ r_10.toInt := by rw [er_10]; exact l0
      have a1r_10 : (62 : Nat) + r_10.toInt < (139 : Nat) := by rw [er_10, ll_eq]; omega
      have e62 : (62 : Int32) = nI 62 := rfl
      refine lv_iadd hx hb dX8_write_51 ?_
      refine lv_iload_n hx hb dX8_write_52 rfl (lv_at hl 1 rfl) ?_
      refine lv_i2l hx hb dX8_write_53 rfl ?_
      refine kk_last (ws' := [(aRf, .inl (cRf, 3, .inl fRf)), (aM, .inr (8, [.ref aNw, .ref rM_kept, .ref rM_isKept, .ref aRf, .int M_at, .int M_fault, .ref rM_values, .int M_valueMany, .ref rM_signs, .int M_signMany, .long M_tells, .int M_way, .int M_wish, .long M_moreTick, .long M_moreForce, .int M_runTurns, .long M_runFirst, .long M_runLast, .ref rM_was, .long M_peak, .long M_beside, .int M_besideAt])), (aNw, .inl (cNw, 139, .inr (.inl (vp_updL fNw (62 + r_10.toNatClampNeg) p1.toInt64))))]) hx hb hK hq 2 0 rfl rfl (62 + r_10.toNatClampNeg) (ix_add (x := r_10) 62 139 (by assumption) (by assumption) (by decide)).1 (ix_add (x := r_10) 62 139 (by assumption) (by assumption) (by decide)).2 (by decide) dX8_write_54 rfl (fun H locs hq => ?_)
      refine lv_aload_n hx hb dX8_write_55 rfl (lv_at hl 0 rfl) ?_
      refine kk_get (ci := 8) (v := .ref aNw) (C := RX8) (T := TX8) (N := 22) hx hb hts iX8 hown hK hq 1 rfl rfl 0 (by decide) lk1_ rfl dX8_write_56 ?_
      refine lv_bipush (v := 61) hx hb dX8_write_59 (by decide) ?_
      refine lv_dup2_11 hx hb dX8_write_61 rfl rfl ?_
      refine kk_lald hx hb hK hq 2 0 rfl rfl 61 rfl (by decide) (by decide) dX8_write_62 ?_
      refine lv_lconst (v := 1) hx hb dX8_write_63 (by decide) ?_
      refine lv_ladd hx hb dX8_write_64 ?_
      refine kk_last (ws' := [(aRf, .inl (cRf, 3, .inl fRf)), (aM, .inr (8, [.ref aNw, .ref rM_kept, .ref rM_isKept, .ref aRf, .int M_at, .int M_fault, .ref rM_values, .int M_valueMany, .ref rM_signs, .int M_signMany, .long M_tells, .int M_way, .int M_wish, .long M_moreTick, .long M_moreForce, .int M_runTurns, .long M_runFirst, .long M_runLast, .ref rM_was, .long M_peak, .long M_beside, .int M_besideAt])), (aNw, .inl (cNw, 139, .inr (.inl (vp_updL (vp_updL fNw (62 + r_10.toNatClampNeg) p1.toInt64) 61 (((vp_updL fNw (62 + r_10.toNatClampNeg) p1.toInt64) 61) + 1)))))]) hx hb hK hq 2 0 rfl rfl 61 rfl (by decide) (by decide) dX8_write_65 rfl (fun H locs hq => ?_)
      refine lv_aload_n hx hb dX8_write_66 rfl (lv_at hl 0 rfl) ?_
      refine kk_Vi (As := []) (rest := []) (wr := [(aRf, .inl (cRf, 3, .inl fRf))]) ⟨hx, hb, hml, hown, hts⟩ (c_X8_lawLong l G aM aNw rM_kept rM_isKept aRf rM_values rM_signs rM_was cNw M_at M_fault M_valueMany M_signMany M_tells M_way M_wish M_moreTick M_moreForce M_runTurns M_runFirst M_runLast M_peak M_beside M_besideAt (vp_updL (vp_updL fNw (62 + r_10.toNatClampNeg) p1.toInt64) 61 (((vp_updL fNw (62 + r_10.toNatClampNeg) p1.toInt64) 61) + 1))) (kk_cwV 0 hts hsb wd_265 wd_266 wd_267 wd_5 wd_268 rfl rfl hd_X8_lawLong ⟨Nat.le_of_ble_eq_true rfl, Nat.le_of_ble_eq_true rfl⟩) hA hK hq [1, 2] [0] [0] rfl rfl rfl (by decide) (by decide) (by decide) 0 8 rfl rfl rfl rfl hl.1 rfl (Nat.le_of_ble_eq_true rfl) dX8_write_67 ⟨Nat.zero_le _, Nat.zero_le _⟩ (fun r_13 u_12 H locs h_14 hq => ?_)
      have er_13 := h_14
      have hq : kAt G A s [(aRf, .inl (cRf, 3, .inl fRf)), (aM, .inr (8, [.ref aNw, .ref rM_kept, .ref rM_isKept, .ref aRf, .int M_at, .int M_fault, .ref rM_values, .int M_valueMany, .ref rM_signs, .int M_signMany, .long M_tells, .int M_way, .int M_wish, .long M_moreTick, .long M_moreForce, .int M_runTurns, .long M_runFirst, .long M_runLast, .ref rM_was, .long M_peak, .long M_beside, .int M_besideAt])), (aNw, .inl (cNw, 139, .inr (.inl (vp_updL (vp_updL fNw (62 + r_10.toNatClampNeg) p1.toInt64) 61 (((vp_updL fNw (62 + r_10.toNatClampNeg) p1.toInt64) 61) + 1)))))] H locs := hq
      have hf : ((r_13, vp_updL (vp_updL fNw (62 + r_10.toNatClampNeg) p1.toInt64) 61 (((vp_updL fNw (62 + r_10.toNatClampNeg) p1.toInt64) 61) + 1), fRf) : Int32 × (Nat → Int64) × (Nat → Int32)) = fX8_write p1 fNw fRf := by
        exact ((congrArg (fun (r_2 : Int32) => ((if r_2 = 0 then (
    let r_16 : Int32 := (fX8_bad (-2) fRf).1
    let u_15 : Nat → Int32 := (fX8_bad (-2) fRf).2
    (r_16, fNw, u_15))
  else (
    let r_6 : Int32 := fX8_lawLong fNw
    if r_6 = 60 then (
      ((-4), fNw, upd fRf 2 ((fRf 2) + 1)))
    else (
      let r_10 : Int32 := fX8_lawLong fNw
      let r_13 : Int32 := fX8_lawLong (vp_updL (vp_updL fNw (62 + r_10.toNatClampNeg) p1.toInt64) 61 (((vp_updL fNw (62 + r_10.toNatClampNeg) p1.toInt64) 61) + 1))
      (r_13, vp_updL (vp_updL fNw (62 + r_10.toNatClampNeg) p1.toInt64) 61 (((vp_updL fNw (62 + r_10.toNatClampNeg) p1.toInt64) 61) + 1), fRf)))) : Int32 × (Nat → Int64) × (Nat → Int32))) er_2.symm).trans ((if_neg c_4).trans ((congrArg (fun (r_6 : Int32) => ((if r_6 = 60 then (
    ((-4), fNw, upd fRf 2 ((fRf 2) + 1)))
  else (
    let r_10 : Int32 := fX8_lawLong fNw
    let r_13 : Int32 := fX8_lawLong (vp_updL (vp_updL fNw (62 + r_10.toNatClampNeg) p1.toInt64) 61 (((vp_updL fNw (62 + r_10.toNatClampNeg) p1.toInt64) 61) + 1))
    (r_13, vp_updL (vp_updL fNw (62 + r_10.toNatClampNeg) p1.toInt64) 61 (((vp_updL fNw (62 + r_10.toNatClampNeg) p1.toInt64) 61) + 1), fRf))) : Int32 × (Nat → Int64) × (Nat → Int32))) er_6.symm).trans ((if_neg c_8).trans ((congrArg (fun (r_10 : Int32) => ((let r_13 : Int32 := fX8_lawLong (vp_updL (vp_updL fNw (62 + r_10.toNatClampNeg) p1.toInt64) 61 (((vp_updL fNw (62 + r_10.toNatClampNeg) p1.toInt64) 61) + 1))
  (r_13, vp_updL (vp_updL fNw (62 + r_10.toNatClampNeg) p1.toInt64) 61 (((vp_updL fNw (62 + r_10.toNatClampNeg) p1.toInt64) 61) + 1), fRf)) : Int32 × (Nat → Int64) × (Nat → Int32))) er_10.symm).trans ((congrArg (fun (r_13 : Int32) => (((r_13, vp_updL (vp_updL fNw (62 + r_10.toNatClampNeg) p1.toInt64) 61 (((vp_updL fNw (62 + r_10.toNatClampNeg) p1.toInt64) 61) + 1), fRf)) : Int32 × (Nat → Int64) × (Nat → Int32))) er_13.symm))))))).symm
      have hf1 := congrArg Prod.fst hf
      have hf2 := congrArg Prod.snd hf
      exact kk_ei hx hb hr hlocks hK hq [1, 2, 0] (vp_updL (vp_updL fNw (62 + r_10.toNatClampNeg) p1.toInt64) 61 (((vp_updL fNw (62 + r_10.toNatClampNeg) p1.toInt64) 61) + 1), fRf) rfl (by decide) dX8_write_70 ⟨hf1, hf2⟩
    · skip
      refine lv_aload_n hx hb dX8_write_28 rfl (lv_at hl 0 rfl) ?_
      refine kk_get (ci := 8) (v := .ref aRf) (C := RX8) (T := TX8) (N := 22) hx hb hts iX8 hown hK hq 1 rfl rfl 3 (by decide) lk2_ rfl dX8_write_29 ?_
      refine lv_iconst (v := 2) hx hb dX8_write_32 (by decide) ?_
      refine lv_dup2_11 hx hb dX8_write_33 rfl rfl ?_
      refine kk_iald hx hb hK hq 0 1 rfl rfl 2 rfl (by decide) (by decide) dX8_write_34 ?_
      refine lv_iconst (v := 1) hx hb dX8_write_35 (by decide) ?_
      refine lv_iadd hx hb dX8_write_36 ?_
      refine kk_iast (ws' := [(aRf, .inl (cRf, 3, .inl (upd fRf 2 ((fRf 2) + 1)))), (aM, .inr (8, [.ref aNw, .ref rM_kept, .ref rM_isKept, .ref aRf, .int M_at, .int M_fault, .ref rM_values, .int M_valueMany, .ref rM_signs, .int M_signMany, .long M_tells, .int M_way, .int M_wish, .long M_moreTick, .long M_moreForce, .int M_runTurns, .long M_runFirst, .long M_runLast, .ref rM_was, .long M_peak, .long M_beside, .int M_besideAt])), (aNw, .inl (cNw, 139, .inr (.inl fNw)))]) hx hb hK hq 0 1 rfl rfl 2 rfl (by decide) (by decide) dX8_write_37 rfl (fun H locs hq => ?_)
      refine lv_bipush (v := -4) hx hb dX8_write_38 (by decide) ?_
      have hf : (((-4), fNw, upd fRf 2 ((fRf 2) + 1)) : Int32 × (Nat → Int64) × (Nat → Int32)) = fX8_write p1 fNw fRf := by
        exact ((congrArg (fun (r_2 : Int32) => ((if r_2 = 0 then (
    let r_16 : Int32 := (fX8_bad (-2) fRf).1
    let u_15 : Nat → Int32 := (fX8_bad (-2) fRf).2
    (r_16, fNw, u_15))
  else (
    let r_6 : Int32 := fX8_lawLong fNw
    if r_6 = 60 then (
      ((-4), fNw, upd fRf 2 ((fRf 2) + 1)))
    else (
      let r_10 : Int32 := fX8_lawLong fNw
      let r_13 : Int32 := fX8_lawLong (vp_updL (vp_updL fNw (62 + r_10.toNatClampNeg) p1.toInt64) 61 (((vp_updL fNw (62 + r_10.toNatClampNeg) p1.toInt64) 61) + 1))
      (r_13, vp_updL (vp_updL fNw (62 + r_10.toNatClampNeg) p1.toInt64) 61 (((vp_updL fNw (62 + r_10.toNatClampNeg) p1.toInt64) 61) + 1), fRf)))) : Int32 × (Nat → Int64) × (Nat → Int32))) er_2.symm).trans ((if_neg c_4).trans ((congrArg (fun (r_6 : Int32) => ((if r_6 = 60 then (
    ((-4), fNw, upd fRf 2 ((fRf 2) + 1)))
  else (
    let r_10 : Int32 := fX8_lawLong fNw
    let r_13 : Int32 := fX8_lawLong (vp_updL (vp_updL fNw (62 + r_10.toNatClampNeg) p1.toInt64) 61 (((vp_updL fNw (62 + r_10.toNatClampNeg) p1.toInt64) 61) + 1))
    (r_13, vp_updL (vp_updL fNw (62 + r_10.toNatClampNeg) p1.toInt64) 61 (((vp_updL fNw (62 + r_10.toNatClampNeg) p1.toInt64) 61) + 1), fRf))) : Int32 × (Nat → Int64) × (Nat → Int32))) er_6.symm).trans ((if_pos c_8))))).symm
      have hf1 := congrArg Prod.fst hf
      have hf2 := congrArg Prod.snd hf
      exact kk_ei hx hb hr hlocks hK hq [1, 2, 0] (fNw, upd fRf 2 ((fRf 2) + 1)) rfl (by decide) dX8_write_40 ⟨hf1, hf2⟩
  · skip
    refine lv_aload_n hx hb dX8_write_12 rfl (lv_at hl 0 rfl) ?_
    refine lv_bipush (v := -2) hx hb dX8_write_13 (by decide) ?_
    refine kk_Vi (As := [.int (-2)]) (rest := []) (wr := [(aNw, .inl (cNw, 139, .inr (.inl fNw)))]) ⟨hx, hb, hml, hown, hts⟩ (c_X8_bad l G aM aRf aNw rM_kept rM_isKept rM_values rM_signs rM_was cRf (-2) M_at M_fault M_valueMany M_signMany M_tells M_way M_wish M_moreTick M_moreForce M_runTurns M_runFirst M_runLast M_peak M_beside M_besideAt fRf) (kk_cwV 1 hts hsb wd_159 wd_160 wd_161 wd_5 wd_162 rfl rfl hd_X8_bad ⟨Nat.le_of_ble_eq_true rfl, Nat.le_of_ble_eq_true rfl⟩) hA hK hq [0, 2] [1] [1] rfl rfl rfl (by decide) (by decide) (by decide) 0 8 rfl rfl rfl rfl hl.1 rfl (Nat.le_of_ble_eq_true rfl) dX8_write_15 ⟨Nat.zero_le _, Nat.zero_le _⟩ (fun r_16 u_15 H locs h_17 hq => ?_)
    obtain ⟨er_16, eu_15⟩ := h_17
    have hq : kAt G A s [(aNw, .inl (cNw, 139, .inr (.inl fNw))), (aM, .inr (8, [.ref aNw, .ref rM_kept, .ref rM_isKept, .ref aRf, .int M_at, .int M_fault, .ref rM_values, .int M_valueMany, .ref rM_signs, .int M_signMany, .long M_tells, .int M_way, .int M_wish, .long M_moreTick, .long M_moreForce, .int M_runTurns, .long M_runFirst, .long M_runLast, .ref rM_was, .long M_peak, .long M_beside, .int M_besideAt])), (aRf, .inl (cRf, 3, .inl u_15))] H locs := hq
    have hf : ((r_16, fNw, u_15) : Int32 × (Nat → Int64) × (Nat → Int32)) = fX8_write p1 fNw fRf := by
      exact ((congrArg (fun (r_2 : Int32) => ((if r_2 = 0 then (
    let r_16 : Int32 := (fX8_bad (-2) fRf).1
    let u_15 : Nat → Int32 := (fX8_bad (-2) fRf).2
    (r_16, fNw, u_15))
  else (
    let r_6 : Int32 := fX8_lawLong fNw
    if r_6 = 60 then (
      ((-4), fNw, upd fRf 2 ((fRf 2) + 1)))
    else (
      let r_10 : Int32 := fX8_lawLong fNw
      let r_13 : Int32 := fX8_lawLong (vp_updL (vp_updL fNw (62 + r_10.toNatClampNeg) p1.toInt64) 61 (((vp_updL fNw (62 + r_10.toNatClampNeg) p1.toInt64) 61) + 1))
      (r_13, vp_updL (vp_updL fNw (62 + r_10.toNatClampNeg) p1.toInt64) 61 (((vp_updL fNw (62 + r_10.toNatClampNeg) p1.toInt64) 61) + 1), fRf)))) : Int32 × (Nat → Int64) × (Nat → Int32))) er_2.symm).trans ((if_pos c_4).trans ((congrArg (fun (r_16 : Int32) => ((let u_15 : Nat → Int32 := (fX8_bad (-2) fRf).2
  (r_16, fNw, u_15)) : Int32 × (Nat → Int64) × (Nat → Int32))) er_16.symm).trans ((congrArg (fun (u_15 : Nat → Int32) => (((r_16, fNw, u_15)) : Int32 × (Nat → Int64) × (Nat → Int32))) eu_15.symm))))).symm
    have hf1 := congrArg Prod.fst hf
    have hf2 := congrArg Prod.snd hf
    exact kk_ei hx hb hr hlocks hK hq [1, 0, 2] (fNw, u_15) rfl (by decide) dX8_write_18 ⟨hf1, hf2⟩
def fX8_erase (fNw : Nat → Int64) : Int32 × (Nat → Int64) :=
  let r_2 : Int32 := fX8_lawLong fNw
  let fNw_4 : Nat → Int64 := vp_updL fNw 61 0
  (r_2, fNw_4)

set_option maxHeartbeats 4000000 in
set_option maxRecDepth 100000 in
theorem c_X8_erase (l : Launch) (G : va_G) (aM aNw rM_kept rM_isKept rM_refused rM_values rM_signs rM_was : Nat) (cNw : ClassId) (M_at : Int32) (M_fault : Int32) (M_valueMany : Int32) (M_signMany : Int32) (M_tells : Int64) (M_way : Int32) (M_wish : Int32) (M_moreTick : Int64) (M_moreForce : Int64) (M_runTurns : Int32) (M_runFirst : Int64) (M_runLast : Int64) (M_peak : Int64) (M_beside : Int64) (M_besideAt : Int32) (fNw : Nat → Int64) : kCi l yX8_erase (Cond.code yX8_erase cX8_erase 2 (some .int) :: wsL_law) ({ frames := 1, cells := 0, slots := 0, locals := 20 }) G [(cNw, .long)] [.ref aM] [(aM, .inr (8, [.ref aNw, .ref rM_kept, .ref rM_isKept, .ref rM_refused, .int M_at, .int M_fault, .ref rM_values, .int M_valueMany, .ref rM_signs, .int M_signMany, .long M_tells, .int M_way, .int M_wish, .long M_moreTick, .long M_moreForce, .int M_runTurns, .long M_runFirst, .long M_runLast, .ref rM_was, .long M_peak, .long M_beside, .int M_besideAt])), (aNw, .inl (cNw, 139, .inr (.inl fNw)))] (fun (r : Int32) (u : Nat → Int64) => r = (fX8_erase fNw).1 ∧ u = (fX8_erase fNw).2) (fun (u : Nat → Int64) => [(aM, .inr (8, [.ref aNw, .ref rM_kept, .ref rM_isKept, .ref rM_refused, .int M_at, .int M_fault, .ref rM_values, .int M_valueMany, .ref rM_signs, .int M_signMany, .long M_tells, .int M_way, .int M_wish, .long M_moreTick, .long M_moreForce, .int M_runTurns, .long M_runFirst, .long M_runLast, .ref rM_was, .long M_peak, .long M_beside, .int M_besideAt])), (aNw, .inl (cNw, 139, .inr (.inl u)))]) := by
  intro sz
  refine Met.ofW (cc := cX8_erase) (maxL := 2) (ret := (some .int)) (by decide) rfl ?_
  intro p e s m args below meth c s₁ B hml hv
  obtain ⟨rfl, hv⟩ := hv
  obtain ⟨rfl, hK, hq, hA⟩ := kk_begin hv
  have hx := B.exec
  have hb := B.bytes
  have hr := B.returns
  have hts := atoms_spec (ws := (Cond.code yX8_erase cX8_erase 2 (some .int) :: wsL_law)) B.pre
  have hown : s.vm.findClass RX8 = some m.cls := findClass_of_methodNamed B.named
  have hlocks := B.notSynchronized
  have hsb : ∀ w ∈ wsL_law, w ∈ (Cond.code yX8_erase cX8_erase 2 (some .int) :: wsL_law) := fun _ h => List.mem_cons_of_mem _ h
  generalize va_A [(aM, .inr (8, [.ref aNw, .ref rM_kept, .ref rM_isKept, .ref rM_refused, .int M_at, .int M_fault, .ref rM_values, .int M_valueMany, .ref rM_signs, .int M_signMany, .long M_tells, .int M_way, .int M_wish, .long M_moreTick, .long M_moreForce, .int M_runTurns, .long M_runFirst, .long M_runLast, .ref rM_was, .long M_peak, .long M_beside, .int M_besideAt])), (aNw, .inl (cNw, 139, .inr (.inl fNw)))] s.heap.size = A at hq hA ⊢
  have iX8 : ∀ w ∈ u_ws RX8 TX8 22, w ∈ (Cond.code yX8_erase cX8_erase 2 (some .int) :: wsL_law) := fun w h => hsb w (bin_X8 w h)
  have lk0_ := hts _ (hsb _ wd_117)
  have hl := lv_entry ([.ref aM]) (n := 2) (Nat.le_of_ble_eq_true rfl)
  rw [lg_entry_eq]
  generalize (lg_sl ([.ref aM]) ++ List.replicate (2 - (lg_sl ([.ref aM])).length) Slot.unset).toArray = ls at hl ⊢
  have hl : lv_has ls 2 [(0, .ref aM)] := hl
  refine lv_aload_n hx hb dX8_erase_0 rfl (lv_at hl 0 rfl) ?_
  refine kk_Vi (As := []) (rest := []) (wr := []) ⟨hx, hb, hml, hown, hts⟩ (c_X8_lawLong l G aM aNw rM_kept rM_isKept rM_refused rM_values rM_signs rM_was cNw M_at M_fault M_valueMany M_signMany M_tells M_way M_wish M_moreTick M_moreForce M_runTurns M_runFirst M_runLast M_peak M_beside M_besideAt fNw) (kk_cwV 0 hts hsb wd_265 wd_266 wd_267 wd_5 wd_268 rfl rfl hd_X8_lawLong ⟨Nat.le_of_ble_eq_true rfl, Nat.le_of_ble_eq_true rfl⟩) hA hK hq [0, 1] [] [0] rfl rfl rfl (by decide) (by decide) (by decide) 0 8 rfl rfl rfl rfl hl.1 rfl (Nat.le_of_ble_eq_true rfl) dX8_erase_1 ⟨Nat.zero_le _, Nat.zero_le _⟩ (fun r_2 u_1 H locs h_3 hq => ?_)
  have er_2 := h_3
  have hq : kAt G A s [(aM, .inr (8, [.ref aNw, .ref rM_kept, .ref rM_isKept, .ref rM_refused, .int M_at, .int M_fault, .ref rM_values, .int M_valueMany, .ref rM_signs, .int M_signMany, .long M_tells, .int M_way, .int M_wish, .long M_moreTick, .long M_moreForce, .int M_runTurns, .long M_runFirst, .long M_runLast, .ref rM_was, .long M_peak, .long M_beside, .int M_besideAt])), (aNw, .inl (cNw, 139, .inr (.inl fNw)))] H locs := hq
  refine lv_istore_n (lv' := [(1, .int r_2), (0, .ref aM)]) hx hb dX8_erase_4 rfl hl (by decide) rfl (fun ls hl => ?_)
  refine lv_aload_n hx hb dX8_erase_5 rfl (lv_at hl 1 rfl) ?_
  refine kk_get (ci := 8) (v := .ref aNw) (C := RX8) (T := TX8) (N := 22) hx hb hts iX8 hown hK hq 0 rfl rfl 0 (by decide) lk0_ rfl dX8_erase_6 ?_
  refine lv_bipush (v := 61) hx hb dX8_erase_9 (by decide) ?_
  refine lv_lconst (v := 0) hx hb dX8_erase_11 (by decide) ?_
  refine kk_last (ws' := [(aM, .inr (8, [.ref aNw, .ref rM_kept, .ref rM_isKept, .ref rM_refused, .int M_at, .int M_fault, .ref rM_values, .int M_valueMany, .ref rM_signs, .int M_signMany, .long M_tells, .int M_way, .int M_wish, .long M_moreTick, .long M_moreForce, .int M_runTurns, .long M_runFirst, .long M_runLast, .ref rM_was, .long M_peak, .long M_beside, .int M_besideAt])), (aNw, .inl (cNw, 139, .inr (.inl (vp_updL fNw 61 0))))]) hx hb hK hq 1 0 rfl rfl 61 rfl (by decide) (by decide) dX8_erase_12 rfl (fun H locs hq => ?_)
  obtain ⟨fNw_4, efNw_4⟩ : ∃ z : Nat → Int64, z = vp_updL fNw 61 0 := ⟨_, rfl⟩
  rw [← efNw_4] at hq
  refine lv_iload_n hx hb dX8_erase_13 rfl (lv_at hl 0 rfl) ?_
  have hf : ((r_2, fNw_4) : Int32 × (Nat → Int64)) = fX8_erase fNw := by
    exact ((congrArg (fun (r_2 : Int32) => ((let fNw_4 : Nat → Int64 := vp_updL fNw 61 0
  (r_2, fNw_4)) : Int32 × (Nat → Int64))) er_2.symm).trans ((congrArg (fun (fNw_4 : Nat → Int64) => (((r_2, fNw_4)) : Int32 × (Nat → Int64))) efNw_4.symm))).symm
  have hf1 := congrArg Prod.fst hf
  have hf2 := congrArg Prod.snd hf
  exact kk_ei hx hb hr hlocks hK hq [0, 1] fNw_4 rfl (by decide) dX8_erase_14 ⟨hf1, hf2⟩
theorem kk_muli {x y : Int32} (h1 : -2147483648 ≤ x.toInt * y.toInt) (h2 : x.toInt * y.toInt < 2147483648) : (x * y).toInt = x.toInt * y.toInt := by
  rw [Int32.toInt_mul]; exact Int.bmod_eq_of_le (by omega) (by omega)
theorem fl_val {a k : Int32} (h0 : 0 ≤ a.toInt) (h1 : a.toInt ≤ 60) (k0 : 0 ≤ k.toInt) (k1 : k.toInt ≤ 3) : (10 * a + k).toInt = 10 * a.toInt + k.toInt := by
  have e : (10 : Int32).toInt = 10 := rfl
  have h2 : (10 * a).toInt = 10 * a.toInt := by rw [kk_muli (by rw [e]; omega) (by rw [e]; omega), e]
  rw [kk_addi (by omega) (by omega), h2]
theorem fl_ne {x a k : Int32} (e : x = 10 * a + k) (h0 : 0 ≤ a.toInt) (h1 : a.toInt ≤ 60) (k0 : 0 ≤ k.toInt) (k1 : k.toInt ≤ 3) : x ≠ -1 := by
  intro h
  have h2 := fl_val h0 h1 k0 k1
  rw [← e, h] at h2
  have h3 : (-1 : Int32).toInt = -1 := rfl
  omega
theorem dg_ge {a b : Int32} (h : a.toInt ≤ b.toInt) : b = a ∨ a.toInt < b.toInt := by
  by_cases e : a.toInt = b.toInt
  · exact Or.inl (Int32.toInt_inj.mp e.symm)
  · right; omega
def lpX8_digits_7 (M_at : Int32) (M_fault : Int32) (fNw : Nat → Int64) : Nat → Int32 → Int64 → Int64 × Int32 × Int32
  | 0, _, _ => (0, 0, 0)
  | N + 1, at_, v =>
    let r_2 : Int32 := fX8_lawLong fNw
    if r_2 ≤ at_ then (
    (v, at_, M_fault))
    else (
    let r_6 : Int32 := fX8_charAt at_ fNw
    let r_9 : Int32 := fX8_in r_6.toInt64 48 57
    if r_9 = 0 then (
    (v, at_, M_fault))
    else (
    if at_ - M_at = 6 then (
    let fault_18 : Int32 := (10 * M_at) + 2
    (0, at_, fault_18))
    else (
    let r_14 : Int32 := fX8_charAt at_ fNw
    let x2_16 : Int64 := ((10 * v) + r_14.toInt64) - 48
    let at_17 : Int32 := at_ + 1
    lpX8_digits_7 M_at M_fault fNw N at_17 x2_16)))

def fX8_digits (M_at : Int32) (M_fault : Int32) (fNw : Nat → Int64) : Int64 × Int32 × Int32 :=
  lpX8_digits_7 M_at M_fault fNw (61) M_at 0

set_option maxHeartbeats 4000000 in
set_option maxRecDepth 100000 in
theorem c_X8_digits (l : Launch) (G : va_G) (aM aNw rM_kept rM_isKept rM_refused rM_values rM_signs rM_was : Nat) (cNw : ClassId) (M_at : Int32) (M_fault : Int32) (M_valueMany : Int32) (M_signMany : Int32) (M_tells : Int64) (M_way : Int32) (M_wish : Int32) (M_moreTick : Int64) (M_moreForce : Int64) (M_runTurns : Int32) (M_runFirst : Int64) (M_runLast : Int64) (M_peak : Int64) (M_beside : Int64) (M_besideAt : Int32) (fNw : Nat → Int64) (l0 : 0 ≤ (fNw 61).toInt32.toInt) (l1 : (fNw 61).toInt32.toInt ≤ 60) (q0 : 0 ≤ M_at.toInt) (q1 : M_at.toInt ≤ 60) : kCl l yX8_digits (Cond.code yX8_digits cX8_digits 4 (some .long) :: wsL_law) ({ frames := 1, cells := 0, slots := 0, locals := 25 }) G [(cNw, .long)] [.ref aM] [(aM, .inr (8, [.ref aNw, .ref rM_kept, .ref rM_isKept, .ref rM_refused, .int M_at, .int M_fault, .ref rM_values, .int M_valueMany, .ref rM_signs, .int M_signMany, .long M_tells, .int M_way, .int M_wish, .long M_moreTick, .long M_moreForce, .int M_runTurns, .long M_runFirst, .long M_runLast, .ref rM_was, .long M_peak, .long M_beside, .int M_besideAt])), (aNw, .inl (cNw, 139, .inr (.inl fNw)))] (fun (r : Int64) (u : Int32 × Int32) => r = (fX8_digits M_at M_fault fNw).1 ∧ u = (fX8_digits M_at M_fault fNw).2 ∧ (0 ≤ u.1.toInt) ∧ (u.1.toInt ≤ 60) ∧ (M_at.toInt ≤ u.1.toInt) ∧ (M_at.toInt < u.1.toInt ∨ (u.2 : Int32) ≠ -1 ∨ fX8_lawLong fNw ≤ M_at ∨ fX8_in (fX8_charAt M_at fNw).toInt64 48 57 = 0)) (fun (u : Int32 × Int32) => [(aM, .inr (8, [.ref aNw, .ref rM_kept, .ref rM_isKept, .ref rM_refused, .int u.1, .int u.2, .ref rM_values, .int M_valueMany, .ref rM_signs, .int M_signMany, .long M_tells, .int M_way, .int M_wish, .long M_moreTick, .long M_moreForce, .int M_runTurns, .long M_runFirst, .long M_runLast, .ref rM_was, .long M_peak, .long M_beside, .int M_besideAt])), (aNw, .inl (cNw, 139, .inr (.inl fNw)))]) := by
  intro sz
  refine Met.ofW (cc := cX8_digits) (maxL := 4) (ret := (some .long)) (by decide) rfl ?_
  intro p e s m args below meth c s₁ B hml hv
  obtain ⟨rfl, hv⟩ := hv
  obtain ⟨rfl, hK, hq, hA⟩ := kk_begin hv
  have hx := B.exec
  have hb := B.bytes
  have hr := B.returns
  have hts := atoms_spec (ws := (Cond.code yX8_digits cX8_digits 4 (some .long) :: wsL_law)) B.pre
  have hown : s.vm.findClass RX8 = some m.cls := findClass_of_methodNamed B.named
  have hlocks := B.notSynchronized
  have hsb : ∀ w ∈ wsL_law, w ∈ (Cond.code yX8_digits cX8_digits 4 (some .long) :: wsL_law) := fun _ h => List.mem_cons_of_mem _ h
  generalize va_A [(aM, .inr (8, [.ref aNw, .ref rM_kept, .ref rM_isKept, .ref rM_refused, .int M_at, .int M_fault, .ref rM_values, .int M_valueMany, .ref rM_signs, .int M_signMany, .long M_tells, .int M_way, .int M_wish, .long M_moreTick, .long M_moreForce, .int M_runTurns, .long M_runFirst, .long M_runLast, .ref rM_was, .long M_peak, .long M_beside, .int M_besideAt])), (aNw, .inl (cNw, 139, .inr (.inl fNw)))] s.heap.size = A at hq hA ⊢
  have iX8 : ∀ w ∈ u_ws RX8 TX8 22, w ∈ (Cond.code yX8_digits cX8_digits 4 (some .long) :: wsL_law) := fun w h => hsb w (bin_X8 w h)
  have lk0_ := hts _ (hsb _ wd_291)
  have lk1_ := hts _ (hsb _ wd_294)
  have lk2_ := hts _ (hsb _ wd_295)
  have lk3_ := hts _ (hsb _ wd_309)
  have lk4_ := hts _ (hsb _ wd_286)
  have hl := lv_entry ([.ref aM]) (n := 4) (Nat.le_of_ble_eq_true rfl)
  rw [lg_entry_eq]
  generalize (lg_sl ([.ref aM]) ++ List.replicate (4 - (lg_sl ([.ref aM])).length) Slot.unset).toArray = ls at hl ⊢
  have hl : lv_has ls 4 [(0, .ref aM)] := hl
  refine lv_aload_n hx hb dX8_digits_0 rfl (lv_at hl 0 rfl) ?_
  refine kk_get (ci := 8) (v := .int M_at) (C := RX8) (T := TX8) (N := 22) hx hb hts iX8 hown hK hq 0 rfl rfl 4 (by decide) lk0_ rfl dX8_digits_1 ?_
  refine lv_istore_n (lv' := [(1, .int M_at), (0, .ref aM)]) hx hb dX8_digits_4 rfl hl (by decide) rfl (fun ls hl => ?_)
  refine lv_lconst (v := 0) hx hb dX8_digits_5 (by decide) ?_
  refine lv_lstore_n (lv' := [(2, .long 0), (1, .int M_at), (0, .ref aM)]) hx hb dX8_digits_6 rfl hl (by decide) rfl (fun ls hl => ?_)
  refine kk_loop2 (fun N7 (at_ : Int32) (v : Int64) (H : Heap) (locs : List Loc) (ls : Array Slot) => lpX8_digits_7 M_at M_fault fNw (61) M_at 0 = lpX8_digits_7 M_at M_fault fNw N7 at_ v ∧ (0 ≤ at_.toInt) ∧ (at_.toInt ≤ 60) ∧ (M_at.toInt ≤ at_.toInt) ∧ (60 < at_.toInt + N7) ∧ lv_has ls 4 [(2, .long v), (1, .int M_at), (0, .ref aM)] ∧ kAt G A s [(aM, .inr (8, [.ref aNw, .ref rM_kept, .ref rM_isKept, .ref rM_refused, .int at_, .int M_fault, .ref rM_values, .int M_valueMany, .ref rM_signs, .int M_signMany, .long M_tells, .int M_way, .int M_wish, .long M_moreTick, .long M_moreForce, .int M_runTurns, .long M_runFirst, .long M_runLast, .ref rM_was, .long M_peak, .long M_beside, .int M_besideAt])), (aNw, .inl (cNw, 139, .inr (.inl fNw)))] H locs) 7 (fun at_ v => []) (fun at_ v H locs ls hv => ?_) (fun N7 at_ v H locs ls ih7 hv => ?_) (61) M_at 0 _ _ _ ⟨rfl, q0, q1, (Int.le_refl _), (by omega), lv_sub hl [0, 1, 2] rfl, hq⟩
  · skip
    obtain ⟨hrel7, ap0, ap1, am, hN, hl, hq⟩ := hv
    omega
  · skip
    obtain ⟨hrel7, ap0, ap1, am, hN, hl, hq⟩ := hv
    refine lv_aload_n hx hb dX8_digits_7 rfl (lv_at hl 2 rfl) ?_
    refine kk_get (ci := 8) (v := .int at_) (C := RX8) (T := TX8) (N := 22) hx hb hts iX8 hown hK hq 0 rfl rfl 4 (by decide) lk0_ rfl dX8_digits_8 ?_
    refine lv_aload_n hx hb dX8_digits_11 rfl (lv_at hl 2 rfl) ?_
    refine kk_Vi (As := []) (rest := [.int at_]) (wr := []) ⟨hx, hb, hml, hown, hts⟩ (c_X8_lawLong l G aM aNw rM_kept rM_isKept rM_refused rM_values rM_signs rM_was cNw at_ M_fault M_valueMany M_signMany M_tells M_way M_wish M_moreTick M_moreForce M_runTurns M_runFirst M_runLast M_peak M_beside M_besideAt fNw) (kk_cwV 0 hts hsb wd_265 wd_266 wd_267 wd_5 wd_268 rfl rfl hd_X8_lawLong ⟨Nat.le_of_ble_eq_true rfl, Nat.le_of_ble_eq_true rfl⟩) hA hK hq [0, 1] [] [0] rfl rfl rfl (by decide) (by decide) (by decide) 0 8 rfl rfl rfl rfl hl.1 rfl (Nat.le_of_ble_eq_true rfl) dX8_digits_12 ⟨Nat.zero_le _, Nat.zero_le _⟩ (fun r_2 u_1 H locs h_3 hq => ?_)
    have er_2 := h_3
    have hq : kAt G A s [(aM, .inr (8, [.ref aNw, .ref rM_kept, .ref rM_isKept, .ref rM_refused, .int at_, .int M_fault, .ref rM_values, .int M_valueMany, .ref rM_signs, .int M_signMany, .long M_tells, .int M_way, .int M_wish, .long M_moreTick, .long M_moreForce, .int M_runTurns, .long M_runFirst, .long M_runLast, .ref rM_was, .long M_peak, .long M_beside, .int M_besideAt])), (aNw, .inl (cNw, 139, .inr (.inl fNw)))] H locs := hq
    have hll := er_2
    refine lv_icmp_ge (tgt := 95) hx hb dX8_digits_15 (by decide) (fun c_4 => ?_) (fun c_4 => ?_)
    · skip
      have hend : fX8_lawLong fNw ≤ at_ ∨ fX8_in (fX8_charAt at_ fNw).toInt64 48 57 = 0 := Or.inl (hll ▸ c_4)
      refine lv_lload_n hx hb dX8_digits_95 rfl (lv_at hl 0 rfl) ?_
      have hf : ((v, at_, M_fault) : Int64 × Int32 × Int32) = fX8_digits M_at M_fault fNw := by
        exact (hrel7.trans ((congrArg (fun (r_2 : Int32) => ((if r_2 ≤ at_ then (
    (v, at_, M_fault))
    else (
    let r_6 : Int32 := fX8_charAt at_ fNw
    let r_9 : Int32 := fX8_in r_6.toInt64 48 57
    if r_9 = 0 then (
    (v, at_, M_fault))
    else (
    if at_ - M_at = 6 then (
    let fault_18 : Int32 := (10 * M_at) + 2
    (0, at_, fault_18))
    else (
    let r_14 : Int32 := fX8_charAt at_ fNw
    let x2_16 : Int64 := ((10 * v) + r_14.toInt64) - 48
    let at_17 : Int32 := at_ + 1
    lpX8_digits_7 M_at M_fault fNw N7 at_17 x2_16)))) : Int64 × Int32 × Int32)) er_2.symm).trans ((if_pos c_4)))).symm
      have hf1 := congrArg Prod.fst hf
      have hf2 := congrArg Prod.snd hf
      have en_0 : 0 ≤ at_.toInt := by first | assumption | omega
      have en_1 : at_.toInt ≤ 60 := by first | assumption | omega
      have en_2 : M_at.toInt ≤ at_.toInt := by first | assumption | omega
      have en_3 : M_at.toInt < at_.toInt ∨ (M_fault : Int32) ≠ -1 ∨ fX8_lawLong fNw ≤ M_at ∨ fX8_in (fX8_charAt M_at fNw).toInt64 48 57 = 0 := by first | exact Or.inr (Or.inl hfl) | (rcases dg_ge am with e | e; (· rw [e] at hend; exact Or.inr (Or.inr hend)); (· exact Or.inl e))
      exact kk_el hx hb hr hlocks hK hq [0, 1] (at_, M_fault) rfl (by decide) dX8_digits_96 ⟨hf1, hf2, en_0, en_1, en_2, en_3⟩
    · skip
      have hlt : at_.toInt < 60 := by have h := c_4; rw [il_le, hll, ll_eq] at h; omega
      refine lv_aload_n hx hb dX8_digits_18 rfl (lv_at hl 2 rfl) ?_
      refine lv_aload_n hx hb dX8_digits_19 rfl (lv_at hl 2 rfl) ?_
      refine kk_get (ci := 8) (v := .int at_) (C := RX8) (T := TX8) (N := 22) hx hb hts iX8 hown hK hq 0 rfl rfl 4 (by decide) lk0_ rfl dX8_digits_20 ?_
      refine kk_Vi (As := [.int at_]) (rest := []) (wr := []) ⟨hx, hb, hml, hown, hts⟩ (c_X8_charAt l G aM aNw rM_kept rM_isKept rM_refused rM_values rM_signs rM_was cNw at_ at_ M_fault M_valueMany M_signMany M_tells M_way M_wish M_moreTick M_moreForce M_runTurns M_runFirst M_runLast M_peak M_beside M_besideAt fNw ap0 hlt) (kk_cwV 1 hts hsb wd_301 wd_302 wd_303 wd_5 wd_304 rfl rfl hd_X8_charAt ⟨Nat.le_of_ble_eq_true rfl, Nat.le_of_ble_eq_true rfl⟩) hA hK hq [0, 1] [] [0] rfl rfl rfl (by decide) (by decide) (by decide) 0 8 rfl rfl rfl rfl hl.1 rfl (Nat.le_of_ble_eq_true rfl) dX8_digits_23 ⟨Nat.zero_le _, Nat.zero_le _⟩ (fun r_6 u_5 H locs h_7 hq => ?_)
      have er_6 := h_7
      have hq : kAt G A s [(aM, .inr (8, [.ref aNw, .ref rM_kept, .ref rM_isKept, .ref rM_refused, .int at_, .int M_fault, .ref rM_values, .int M_valueMany, .ref rM_signs, .int M_signMany, .long M_tells, .int M_way, .int M_wish, .long M_moreTick, .long M_moreForce, .int M_runTurns, .long M_runFirst, .long M_runLast, .ref rM_was, .long M_peak, .long M_beside, .int M_besideAt])), (aNw, .inl (cNw, 139, .inr (.inl fNw)))] H locs := hq
      have hch := er_6
      refine lv_i2l hx hb dX8_digits_26 rfl ?_
      refine lv_ldc2 hx hb hown lk1_ dX8_digits_27 ?_
      refine lv_ldc2 hx hb hown lk2_ dX8_digits_30 ?_
      refine kk_Si (As := [.long r_6.toInt64, .long 48, .long 57]) (rest := []) (wr := [(aM, .inr (8, [.ref aNw, .ref rM_kept, .ref rM_isKept, .ref rM_refused, .int at_, .int M_fault, .ref rM_values, .int M_valueMany, .ref rM_signs, .int M_signMany, .long M_tells, .int M_way, .int M_wish, .long M_moreTick, .long M_moreForce, .int M_runTurns, .long M_runFirst, .long M_runLast, .ref rM_was, .long M_peak, .long M_beside, .int M_besideAt])), (aNw, .inl (cNw, 139, .inr (.inl fNw)))]) ⟨hx, hb, hml, hown, hts⟩ (c_X8_in l G r_6.toInt64 48 57) (kk_cwS 3 hts hsb wd_156 wd_157 wd_5 wd_158 rfl rfl hd_X8_in ⟨Nat.le_of_ble_eq_true rfl, Nat.le_of_ble_eq_true rfl⟩) hA hK hq [] [0, 1] [] rfl rfl rfl (by decide) (by decide) (by decide) rfl hl.1 rfl (Nat.le_of_ble_eq_true rfl) dX8_digits_33 ⟨Nat.zero_le _, Nat.zero_le _⟩ (fun r_9 u_8 H locs h_10 hq => ?_)
      obtain ⟨er_9, zr_9⟩ := h_10
      have hq : kAt G A s [(aM, .inr (8, [.ref aNw, .ref rM_kept, .ref rM_isKept, .ref rM_refused, .int at_, .int M_fault, .ref rM_values, .int M_valueMany, .ref rM_signs, .int M_signMany, .long M_tells, .int M_way, .int M_wish, .long M_moreTick, .long M_moreForce, .int M_runTurns, .long M_runFirst, .long M_runLast, .ref rM_was, .long M_peak, .long M_beside, .int M_besideAt])), (aNw, .inl (cNw, 139, .inr (.inl fNw)))] H locs := hq
      have hin9 := er_9
      refine lv_if_eq (tgt := 95) hx hb dX8_digits_36 (by decide) (fun c_11 => ?_) (fun c_11 => ?_)
      · skip
        have hend : fX8_lawLong fNw ≤ at_ ∨ fX8_in (fX8_charAt at_ fNw).toInt64 48 57 = 0 := Or.inr (by rw [← hch, ← hin9]; exact c_11)
        refine lv_lload_n hx hb dX8_digits_95 rfl (lv_at hl 0 rfl) ?_
        have hf : ((v, at_, M_fault) : Int64 × Int32 × Int32) = fX8_digits M_at M_fault fNw := by
          exact (hrel7.trans ((congrArg (fun (r_2 : Int32) => ((if r_2 ≤ at_ then (
    (v, at_, M_fault))
    else (
    let r_6 : Int32 := fX8_charAt at_ fNw
    let r_9 : Int32 := fX8_in r_6.toInt64 48 57
    if r_9 = 0 then (
    (v, at_, M_fault))
    else (
    if at_ - M_at = 6 then (
    let fault_18 : Int32 := (10 * M_at) + 2
    (0, at_, fault_18))
    else (
    let r_14 : Int32 := fX8_charAt at_ fNw
    let x2_16 : Int64 := ((10 * v) + r_14.toInt64) - 48
    let at_17 : Int32 := at_ + 1
    lpX8_digits_7 M_at M_fault fNw N7 at_17 x2_16)))) : Int64 × Int32 × Int32)) er_2.symm).trans ((if_neg c_4).trans ((congrArg (fun (r_6 : Int32) => ((let r_9 : Int32 := fX8_in r_6.toInt64 48 57
    if r_9 = 0 then (
    (v, at_, M_fault))
    else (
    if at_ - M_at = 6 then (
    let fault_18 : Int32 := (10 * M_at) + 2
    (0, at_, fault_18))
    else (
    let r_14 : Int32 := fX8_charAt at_ fNw
    let x2_16 : Int64 := ((10 * v) + r_14.toInt64) - 48
    let at_17 : Int32 := at_ + 1
    lpX8_digits_7 M_at M_fault fNw N7 at_17 x2_16))) : Int64 × Int32 × Int32)) er_6.symm).trans ((congrArg (fun (r_9 : Int32) => ((if r_9 = 0 then (
    (v, at_, M_fault))
    else (
    if at_ - M_at = 6 then (
    let fault_18 : Int32 := (10 * M_at) + 2
    (0, at_, fault_18))
    else (
    let r_14 : Int32 := fX8_charAt at_ fNw
    let x2_16 : Int64 := ((10 * v) + r_14.toInt64) - 48
    let at_17 : Int32 := at_ + 1
    lpX8_digits_7 M_at M_fault fNw N7 at_17 x2_16))) : Int64 × Int32 × Int32)) er_9.symm).trans ((if_pos c_11))))))).symm
        have hf1 := congrArg Prod.fst hf
        have hf2 := congrArg Prod.snd hf
        have en_0 : 0 ≤ at_.toInt := by first | assumption | omega
        have en_1 : at_.toInt ≤ 60 := by first | assumption | omega
        have en_2 : M_at.toInt ≤ at_.toInt := by first | assumption | omega
        have en_3 : M_at.toInt < at_.toInt ∨ (M_fault : Int32) ≠ -1 ∨ fX8_lawLong fNw ≤ M_at ∨ fX8_in (fX8_charAt M_at fNw).toInt64 48 57 = 0 := by first | exact Or.inr (Or.inl hfl) | (rcases dg_ge am with e | e; (· rw [e] at hend; exact Or.inr (Or.inr hend)); (· exact Or.inl e))
        exact kk_el hx hb hr hlocks hK hq [0, 1] (at_, M_fault) rfl (by decide) dX8_digits_96 ⟨hf1, hf2, en_0, en_1, en_2, en_3⟩
      · skip
        refine lv_aload_n hx hb dX8_digits_39 rfl (lv_at hl 2 rfl) ?_
        refine kk_get (ci := 8) (v := .int at_) (C := RX8) (T := TX8) (N := 22) hx hb hts iX8 hown hK hq 0 rfl rfl 4 (by decide) lk0_ rfl dX8_digits_40 ?_
        refine lv_iload_n hx hb dX8_digits_43 rfl (lv_at hl 1 rfl) ?_
        refine lv_isub hx hb dX8_digits_44 ?_
        refine lv_bipush (v := 6) hx hb dX8_digits_45 (by decide) ?_
        refine lv_icmp_ne (tgt := 62) hx hb dX8_digits_47 (by decide) (fun c_12 => ?_) (fun c_12 => ?_)
        · skip
          refine lv_ldc2 hx hb hown lk3_ dX8_digits_62 ?_
          refine lv_lload_n hx hb dX8_digits_65 rfl (lv_at hl 0 rfl) ?_
          refine lv_lmul hx hb dX8_digits_66 ?_
          refine lv_aload_n hx hb dX8_digits_67 rfl (lv_at hl 2 rfl) ?_
          refine lv_aload_n hx hb dX8_digits_68 rfl (lv_at hl 2 rfl) ?_
          refine kk_get (ci := 8) (v := .int at_) (C := RX8) (T := TX8) (N := 22) hx hb hts iX8 hown hK hq 0 rfl rfl 4 (by decide) lk0_ rfl dX8_digits_69 ?_
          refine kk_Vi (As := [.int at_]) (rest := [.long (10 * v)]) (wr := []) ⟨hx, hb, hml, hown, hts⟩ (c_X8_charAt l G aM aNw rM_kept rM_isKept rM_refused rM_values rM_signs rM_was cNw at_ at_ M_fault M_valueMany M_signMany M_tells M_way M_wish M_moreTick M_moreForce M_runTurns M_runFirst M_runLast M_peak M_beside M_besideAt fNw ap0 hlt) (kk_cwV 1 hts hsb wd_301 wd_302 wd_303 wd_5 wd_304 rfl rfl hd_X8_charAt ⟨Nat.le_of_ble_eq_true rfl, Nat.le_of_ble_eq_true rfl⟩) hA hK hq [0, 1] [] [0] rfl rfl rfl (by decide) (by decide) (by decide) 0 8 rfl rfl rfl rfl hl.1 rfl (Nat.le_of_ble_eq_true rfl) dX8_digits_72 ⟨Nat.zero_le _, Nat.zero_le _⟩ (fun r_14 u_13 H locs h_15 hq => ?_)
          have er_14 := h_15
          have hq : kAt G A s [(aM, .inr (8, [.ref aNw, .ref rM_kept, .ref rM_isKept, .ref rM_refused, .int at_, .int M_fault, .ref rM_values, .int M_valueMany, .ref rM_signs, .int M_signMany, .long M_tells, .int M_way, .int M_wish, .long M_moreTick, .long M_moreForce, .int M_runTurns, .long M_runFirst, .long M_runLast, .ref rM_was, .long M_peak, .long M_beside, .int M_besideAt])), (aNw, .inl (cNw, 139, .inr (.inl fNw)))] H locs := hq
          refine lv_i2l hx hb dX8_digits_75 rfl ?_
          refine lv_ladd hx hb dX8_digits_76 ?_
          refine lv_ldc2 hx hb hown lk1_ dX8_digits_77 ?_
          refine lv_lsub hx hb dX8_digits_80 ?_
          refine lv_topl (fun x2_16 ex2_16 => ?_)
          refine lv_lstore_n (lv' := [(2, .long x2_16), (1, .int M_at), (0, .ref aM)]) hx hb dX8_digits_81 rfl hl (by decide) rfl (fun ls hl => ?_)
          refine lv_aload_n hx hb dX8_digits_82 rfl (lv_at hl 2 rfl) ?_
          refine lv_dup hx hb dX8_digits_83 rfl ?_
          refine kk_get (ci := 8) (v := .int at_) (C := RX8) (T := TX8) (N := 22) hx hb hts iX8 hown hK hq 0 rfl rfl 4 (by decide) lk0_ rfl dX8_digits_84 ?_
          refine lv_iconst (v := 1) hx hb dX8_digits_87 (by decide) ?_
          refine lv_iadd hx hb dX8_digits_88 ?_
          refine lv_topi (fun at_17 eat_17 => ?_)
          refine kk_put (ws' := [(aM, .inr (8, [.ref aNw, .ref rM_kept, .ref rM_isKept, .ref rM_refused, .int at_17, .int M_fault, .ref rM_values, .int M_valueMany, .ref rM_signs, .int M_signMany, .long M_tells, .int M_way, .int M_wish, .long M_moreTick, .long M_moreForce, .int M_runTurns, .long M_runFirst, .long M_runLast, .ref rM_was, .long M_peak, .long M_beside, .int M_besideAt])), (aNw, .inl (cNw, 139, .inr (.inl fNw)))]) (ci := 8) (v := .int at_17) (C := RX8) (T := TX8) (N := 22) hx hb hts iX8 tyX8_ok nmX8 hown hK hq 0 rfl rfl 4 (by decide) lk0_ rfl rfl rfl (Nat.le_of_ble_eq_true rfl) dX8_digits_89 rfl (fun H locs hq => ?_)
          have hat_17 := at_inc eat_17 ap0 hlt
          have q0at_17 : 0 ≤ at_17.toInt := hat_17.1
          have q1at_17 : at_17.toInt ≤ 60 := hat_17.2
          refine lv_goto (tgt := 7) hx hb dX8_digits_92 (by decide) ?_
          exact ih7 at_17 x2_16 _ _ _ ⟨(hrel7.trans ((congrArg (fun (r_2 : Int32) => ((if r_2 ≤ at_ then (
    (v, at_, M_fault))
    else (
    let r_6 : Int32 := fX8_charAt at_ fNw
    let r_9 : Int32 := fX8_in r_6.toInt64 48 57
    if r_9 = 0 then (
    (v, at_, M_fault))
    else (
    if at_ - M_at = 6 then (
    let fault_18 : Int32 := (10 * M_at) + 2
    (0, at_, fault_18))
    else (
    let r_14 : Int32 := fX8_charAt at_ fNw
    let x2_16 : Int64 := ((10 * v) + r_14.toInt64) - 48
    let at_17 : Int32 := at_ + 1
    lpX8_digits_7 M_at M_fault fNw N7 at_17 x2_16)))) : Int64 × Int32 × Int32)) er_2.symm).trans ((if_neg c_4).trans ((congrArg (fun (r_6 : Int32) => ((let r_9 : Int32 := fX8_in r_6.toInt64 48 57
    if r_9 = 0 then (
    (v, at_, M_fault))
    else (
    if at_ - M_at = 6 then (
    let fault_18 : Int32 := (10 * M_at) + 2
    (0, at_, fault_18))
    else (
    let r_14 : Int32 := fX8_charAt at_ fNw
    let x2_16 : Int64 := ((10 * v) + r_14.toInt64) - 48
    let at_17 : Int32 := at_ + 1
    lpX8_digits_7 M_at M_fault fNw N7 at_17 x2_16))) : Int64 × Int32 × Int32)) er_6.symm).trans ((congrArg (fun (r_9 : Int32) => ((if r_9 = 0 then (
    (v, at_, M_fault))
    else (
    if at_ - M_at = 6 then (
    let fault_18 : Int32 := (10 * M_at) + 2
    (0, at_, fault_18))
    else (
    let r_14 : Int32 := fX8_charAt at_ fNw
    let x2_16 : Int64 := ((10 * v) + r_14.toInt64) - 48
    let at_17 : Int32 := at_ + 1
    lpX8_digits_7 M_at M_fault fNw N7 at_17 x2_16))) : Int64 × Int32 × Int32)) er_9.symm).trans ((if_neg c_11).trans ((if_neg c_12).trans ((congrArg (fun (r_14 : Int32) => ((let x2_16 : Int64 := ((10 * v) + r_14.toInt64) - 48
    let at_17 : Int32 := at_ + 1
    lpX8_digits_7 M_at M_fault fNw N7 at_17 x2_16) : Int64 × Int32 × Int32)) er_14.symm).trans ((congrArg (fun (x2_16 : Int64) => ((let at_17 : Int32 := at_ + 1
    lpX8_digits_7 M_at M_fault fNw N7 at_17 x2_16) : Int64 × Int32 × Int32)) ex2_16.symm).trans ((congrArg (fun (at_17 : Int32) => ((lpX8_digits_7 M_at M_fault fNw N7 at_17 x2_16) : Int64 × Int32 × Int32)) eat_17.symm))))))))))), (by assumption), (by assumption), (by rw [eat_17]; have := kk_inc (x := at_) (by omega); omega), (by rw [eat_17]; have := kk_inc (x := at_) (by omega); omega), lv_sub hl [0, 1, 2] rfl, hq⟩
        · skip
          refine lv_aload_n hx hb dX8_digits_50 rfl (lv_at hl 2 rfl) ?_
          refine lv_bipush (v := 10) hx hb dX8_digits_51 (by decide) ?_
          refine lv_iload_n hx hb dX8_digits_53 rfl (lv_at hl 1 rfl) ?_
          refine lv_imul hx hb dX8_digits_54 ?_
          refine lv_iconst (v := 2) hx hb dX8_digits_55 (by decide) ?_
          refine lv_iadd hx hb dX8_digits_56 ?_
          refine lv_topi (fun fault_18 efault_18 => ?_)
          refine kk_put (ws' := [(aM, .inr (8, [.ref aNw, .ref rM_kept, .ref rM_isKept, .ref rM_refused, .int at_, .int fault_18, .ref rM_values, .int M_valueMany, .ref rM_signs, .int M_signMany, .long M_tells, .int M_way, .int M_wish, .long M_moreTick, .long M_moreForce, .int M_runTurns, .long M_runFirst, .long M_runLast, .ref rM_was, .long M_peak, .long M_beside, .int M_besideAt])), (aNw, .inl (cNw, 139, .inr (.inl fNw)))]) (ci := 8) (v := .int fault_18) (C := RX8) (T := TX8) (N := 22) hx hb hts iX8 tyX8_ok nmX8 hown hK hq 0 rfl rfl 5 (by decide) lk4_ rfl rfl rfl (Nat.le_of_ble_eq_true rfl) dX8_digits_57 rfl (fun H locs hq => ?_)
          have hfl := fl_ne (k := 2) efault_18 q0 q1 (by decide) (by decide)
          refine lv_lconst (v := 0) hx hb dX8_digits_60 (by decide) ?_
          have hf : ((0, at_, fault_18) : Int64 × Int32 × Int32) = fX8_digits M_at M_fault fNw := by
            exact (hrel7.trans ((congrArg (fun (r_2 : Int32) => ((if r_2 ≤ at_ then (
    (v, at_, M_fault))
    else (
    let r_6 : Int32 := fX8_charAt at_ fNw
    let r_9 : Int32 := fX8_in r_6.toInt64 48 57
    if r_9 = 0 then (
    (v, at_, M_fault))
    else (
    if at_ - M_at = 6 then (
    let fault_18 : Int32 := (10 * M_at) + 2
    (0, at_, fault_18))
    else (
    let r_14 : Int32 := fX8_charAt at_ fNw
    let x2_16 : Int64 := ((10 * v) + r_14.toInt64) - 48
    let at_17 : Int32 := at_ + 1
    lpX8_digits_7 M_at M_fault fNw N7 at_17 x2_16)))) : Int64 × Int32 × Int32)) er_2.symm).trans ((if_neg c_4).trans ((congrArg (fun (r_6 : Int32) => ((let r_9 : Int32 := fX8_in r_6.toInt64 48 57
    if r_9 = 0 then (
    (v, at_, M_fault))
    else (
    if at_ - M_at = 6 then (
    let fault_18 : Int32 := (10 * M_at) + 2
    (0, at_, fault_18))
    else (
    let r_14 : Int32 := fX8_charAt at_ fNw
    let x2_16 : Int64 := ((10 * v) + r_14.toInt64) - 48
    let at_17 : Int32 := at_ + 1
    lpX8_digits_7 M_at M_fault fNw N7 at_17 x2_16))) : Int64 × Int32 × Int32)) er_6.symm).trans ((congrArg (fun (r_9 : Int32) => ((if r_9 = 0 then (
    (v, at_, M_fault))
    else (
    if at_ - M_at = 6 then (
    let fault_18 : Int32 := (10 * M_at) + 2
    (0, at_, fault_18))
    else (
    let r_14 : Int32 := fX8_charAt at_ fNw
    let x2_16 : Int64 := ((10 * v) + r_14.toInt64) - 48
    let at_17 : Int32 := at_ + 1
    lpX8_digits_7 M_at M_fault fNw N7 at_17 x2_16))) : Int64 × Int32 × Int32)) er_9.symm).trans ((if_neg c_11).trans ((if_pos c_12).trans ((congrArg (fun (fault_18 : Int32) => (((0, at_, fault_18)) : Int64 × Int32 × Int32)) efault_18.symm))))))))).symm
          have hf1 := congrArg Prod.fst hf
          have hf2 := congrArg Prod.snd hf
          have en_0 : 0 ≤ at_.toInt := by first | assumption | omega
          have en_1 : at_.toInt ≤ 60 := by first | assumption | omega
          have en_2 : M_at.toInt ≤ at_.toInt := by first | assumption | omega
          have en_3 : M_at.toInt < at_.toInt ∨ (fault_18 : Int32) ≠ -1 ∨ fX8_lawLong fNw ≤ M_at ∨ fX8_in (fX8_charAt M_at fNw).toInt64 48 57 = 0 := by first | exact Or.inr (Or.inl hfl) | (rcases dg_ge am with e | e; (· rw [e] at hend; exact Or.inr (Or.inr hend)); (· exact Or.inl e))
          exact kk_el hx hb hr hlocks hK hq [0, 1] (at_, fault_18) rfl (by decide) dX8_digits_61 ⟨hf1, hf2, en_0, en_1, en_2, en_3⟩
