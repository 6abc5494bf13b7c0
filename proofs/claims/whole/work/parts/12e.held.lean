theorem hd_X2_readSum : yX2_readSum.cls = RX2 ∧ yX2_readSum.cls ≠ "java/lang/invoke/MethodHandle" ∧ yX2_readSum.cls ≠ "java/lang/invoke/VarHandle" ∧ (parseMethodDescriptor yX2_readSum.desc).map (fun d => d.parameters.length) = some 1 := by decide +kernel
def fX2_readHeld (inn : Int32 → Int32 → (Nat → Int32) → Int32 → Int32 → (Nat → Int32) → Int32 × Int32 × (Nat → Int32) × Int32 × Int32 × (Nat → Int32)) (R_waitingCount : Int32) (R_at : Int32) (fW : Nat → Int32) (T_length : Int32) (fS : Nat → Int32) (L_count : Int32) (L_fault : Int32) (fP : Nat → Int32) : Int32 × Int32 × (Nat → Int32) × Int32 × Int32 × (Nat → Int32) :=
  let u_1 : Int32 × Int32 × (Nat → Int32) × Int32 × Int32 × (Nat → Int32) := fX2_readSum inn R_waitingCount R_at fW T_length fS L_count L_fault fP
  let r_5 : Int32 := (fX2_nextSign u_1.2.1 T_length fS u_1.2.2.2.2.1).1
  let u_4 : Int32 := (fX2_nextSign u_1.2.1 T_length fS u_1.2.2.2.2.1).2
  if r_5 = 60 then (
    let at_8 : Int32 := u_4 + 1
    let u_9 : Int32 × Int32 × (Nat → Int32) × Int32 × Int32 × (Nat → Int32) := fX2_readSum inn u_1.1 at_8 u_1.2.2.1 T_length fS u_1.2.2.2.1 u_1.2.2.2.2.1 u_1.2.2.2.2.2
    let u_12 : Int32 × (Nat → Int32) := fX1_addSign r_5 u_9.2.2.2.1 u_9.2.2.2.2.2
    (u_9.1, u_9.2.1, u_9.2.2.1, u_12.1, u_9.2.2.2.2.1, u_12.2))
  else (
    if r_5 = 62 then (
      let at_16 : Int32 := u_4 + 1
      let u_17 : Int32 × Int32 × (Nat → Int32) × Int32 × Int32 × (Nat → Int32) := fX2_readSum inn u_1.1 at_16 u_1.2.2.1 T_length fS u_1.2.2.2.1 u_1.2.2.2.2.1 u_1.2.2.2.2.2
      let u_20 : Int32 × (Nat → Int32) := fX1_addSign r_5 u_17.2.2.2.1 u_17.2.2.2.2.2
      (u_17.1, u_17.2.1, u_17.2.2.1, u_20.1, u_17.2.2.2.2.1, u_20.2))
    else (
      if r_5 = 61 then (
        let at_24 : Int32 := u_4 + 1
        let u_25 : Int32 × Int32 × (Nat → Int32) × Int32 × Int32 × (Nat → Int32) := fX2_readSum inn u_1.1 at_24 u_1.2.2.1 T_length fS u_1.2.2.2.1 u_1.2.2.2.2.1 u_1.2.2.2.2.2
        let u_28 : Int32 × (Nat → Int32) := fX1_addSign r_5 u_25.2.2.2.1 u_25.2.2.2.2.2
        (u_25.1, u_25.2.1, u_25.2.2.1, u_28.1, u_25.2.2.2.2.1, u_28.2))
      else (
        (u_1.1, u_4, u_1.2.2.1, u_1.2.2.2.1, u_1.2.2.2.2.1, u_1.2.2.2.2.2))))

set_option maxHeartbeats 4000000 in
set_option maxRecDepth 100000 in
theorem c_X2_readHeld (l : Launch) (G : va_G) (aR aW aT aS aL aP rL_values : Nat) (cW cS cP : ClassId) (F Q : Nat) (p1 : Int32) (R_waitingCount : Int32) (R_at : Int32) (fW : Nat → Int32) (T_length : Int32) (fS : Nat → Int32) (L_count : Int32) (L_fault : Int32) (L_top : Int32) (fP : Nat → Int32) (inn : Int32 → Int32 → (Nat → Int32) → Int32 → Int32 → (Nat → Int32) → Int32 × Int32 × (Nat → Int32) × Int32 × Int32 × (Nat → Int32)) (q0 : 0 ≤ R_at.toInt) (q1 : R_at.toInt ≤ 60) (n1 : T_length.toInt ≤ 60) (w0 : 0 ≤ R_waitingCount.toInt) (w1 : R_waitingCount.toInt ≤ 60) (k0 : 0 ≤ L_count.toInt) (k1 : L_count.toInt ≤ 60) (hI : hy_inner l G aR aW aT aS aL aP rL_values cW cS cP F Q p1 T_length fS inn) : kCv l yX2_readHeld (Cond.code yX2_readHeld cX2_readHeld 3 none :: wsL_law) ({ frames := F + 7, cells := 0, slots := 0, locals := Q + 155 }) G [(cW, .int), (cS, .int), (cP, .int)] [.ref aR, .int p1] [(aR, .inr (2, [.ref aW, .int R_waitingCount, .ref aT, .ref aL, .int R_at])), (aW, .inl (cW, 60, .inl fW)), (aT, .inr (5, [.ref aS, .int T_length])), (aS, .inl (cS, 60, .inl fS)), (aL, .inr (1, [.ref aP, .int L_count, .int L_fault, .ref rL_values, .int L_top])), (aP, .inl (cP, 60, .inl fP))] (fun (u : Int32 × Int32 × (Nat → Int32) × Int32 × Int32 × (Nat → Int32)) => u = fX2_readHeld inn R_waitingCount R_at fW T_length fS L_count L_fault fP ∧ (0 ≤ u.2.1.toInt) ∧ (u.2.1.toInt ≤ 60) ∧ (0 ≤ u.1.toInt) ∧ (u.1.toInt ≤ 60) ∧ (0 ≤ u.2.2.2.1.toInt) ∧ (u.2.2.2.1.toInt ≤ 60)) (fun (u : Int32 × Int32 × (Nat → Int32) × Int32 × Int32 × (Nat → Int32)) => [(aR, .inr (2, [.ref aW, .int u.1, .ref aT, .ref aL, .int u.2.1])), (aW, .inl (cW, 60, .inl u.2.2.1)), (aT, .inr (5, [.ref aS, .int T_length])), (aS, .inl (cS, 60, .inl fS)), (aL, .inr (1, [.ref aP, .int u.2.2.2.1, .int u.2.2.2.2.1, .ref rL_values, .int L_top])), (aP, .inl (cP, 60, .inl u.2.2.2.2.2))]) := by
  intro sz
  refine Met.ofW (cc := cX2_readHeld) (maxL := 3) (ret := none) (by decide) rfl ?_
  intro p e s m args below meth c s₁ B hml hv
  obtain ⟨rfl, hv⟩ := hv
  obtain ⟨rfl, hK, hq, hA⟩ := kk_begin hv
  have hx := B.exec
  have hb := B.bytes
  have hr := B.returns
  have hts := atoms_spec (ws := (Cond.code yX2_readHeld cX2_readHeld 3 none :: wsL_law)) B.pre
  have hown : s.vm.findClass RX2 = some m.cls := findClass_of_methodNamed B.named
  have hlocks := B.notSynchronized
  have hsb : ∀ w ∈ wsL_law, w ∈ (Cond.code yX2_readHeld cX2_readHeld 3 none :: wsL_law) := fun _ h => List.mem_cons_of_mem _ h
  generalize va_A [(aR, .inr (2, [.ref aW, .int R_waitingCount, .ref aT, .ref aL, .int R_at])), (aW, .inl (cW, 60, .inl fW)), (aT, .inr (5, [.ref aS, .int T_length])), (aS, .inl (cS, 60, .inl fS)), (aL, .inr (1, [.ref aP, .int L_count, .int L_fault, .ref rL_values, .int L_top])), (aP, .inl (cP, 60, .inl fP))] s.heap.size = A at hq hA ⊢
  have iX2 : ∀ w ∈ u_ws RX2 TX2 5, w ∈ (Cond.code yX2_readHeld cX2_readHeld 3 none :: wsL_law) := fun w h => hsb w (bin_X2 w h)
  have lk0_ := hts _ (hsb _ wd_110)
  have lk1_ := hts _ (hsb _ wd_112)
  have hl := lv_entry ([.ref aR, .int p1]) (n := 3) (Nat.le_of_ble_eq_true rfl)
  rw [lg_entry_eq]
  generalize (lg_sl ([.ref aR, .int p1]) ++ List.replicate (3 - (lg_sl ([.ref aR, .int p1])).length) Slot.unset).toArray = ls at hl ⊢
  have hl : lv_has ls 3 [(0, .ref aR), (1, .int p1)] := hl
  refine lv_aload_n hx hb dX2_readHeld_0 rfl (lv_at hl 0 rfl) ?_
  refine lv_iload_n hx hb dX2_readHeld_1 rfl (lv_at hl 1 rfl) ?_
  refine kk_Vv (As := [.int p1]) (rest := []) (wr := []) ⟨hx, hb, hml, hown, hts⟩ (c_X2_readSum l G aR aW aT aS aL aP rL_values cW cS cP F Q p1 R_waitingCount R_at fW T_length fS L_count L_fault L_top fP inn (by assumption) (by assumption) (by assumption) (by assumption) (by assumption) (by assumption) (by assumption) (by assumption)) (kk_cwV 1 hts hsb wd_240 wd_241 wd_242 wd_25 wd_244 rfl rfl hd_X2_readSum ⟨by dsimp only [headSpec]; omega, by dsimp only [headSpec]; omega⟩) hA hK hq [0, 1, 2, 3, 4, 5] [] [0, 1, 2] rfl rfl rfl (by decide) (by decide) (by decide) 0 2 rfl rfl rfl rfl hl.1 rfl (Nat.le_of_ble_eq_true rfl) dX2_readHeld_2 ⟨Nat.zero_le _, Nat.zero_le _⟩ (fun u_1 H locs h_3 hq => ?_)
  obtain ⟨eu_1, q0_u_1, q1_u_1, w0_u_1, w1_u_1, k0_u_1, k1_u_1⟩ := h_3
  have hq : kAt G A s [(aR, .inr (2, [.ref aW, .int u_1.1, .ref aT, .ref aL, .int u_1.2.1])), (aW, .inl (cW, 60, .inl u_1.2.2.1)), (aT, .inr (5, [.ref aS, .int T_length])), (aS, .inl (cS, 60, .inl fS)), (aL, .inr (1, [.ref aP, .int u_1.2.2.2.1, .int u_1.2.2.2.2.1, .ref rL_values, .int L_top])), (aP, .inl (cP, 60, .inl u_1.2.2.2.2.2))] H locs := hq
  refine lv_aload_n hx hb dX2_readHeld_5 rfl (lv_at hl 0 rfl) ?_
  refine kk_Vi (As := []) (rest := []) (wr := [(aW, .inl (cW, 60, .inl u_1.2.2.1)), (aP, .inl (cP, 60, .inl u_1.2.2.2.2.2))]) ⟨hx, hb, hml, hown, hts⟩ (c_X2_nextSign l G aR aT aS aL aW aP rL_values cS u_1.1 u_1.2.1 T_length fS u_1.2.2.2.1 u_1.2.2.2.2.1 L_top (by assumption) (by assumption) (by assumption)) (kk_cwV 0 hts hsb wd_195 wd_196 wd_197 wd_25 wd_198 rfl rfl hd_X2_nextSign ⟨by dsimp only [headSpec]; omega, by dsimp only [headSpec]; omega⟩) hA hK hq [0, 2, 3, 4] [1, 5] [1] rfl rfl rfl (by decide) (by decide) (by decide) 0 2 rfl rfl rfl rfl hl.1 rfl (Nat.le_of_ble_eq_true rfl) dX2_readHeld_6 ⟨Nat.zero_le _, Nat.zero_le _⟩ (fun r_5 u_4 H locs h_6 hq => ?_)
  obtain ⟨er_5, eu_4, q0_u_4, q1_u_4, nx_u_4⟩ := h_6
  have hq : kAt G A s [(aW, .inl (cW, 60, .inl u_1.2.2.1)), (aP, .inl (cP, 60, .inl u_1.2.2.2.2.2)), (aR, .inr (2, [.ref aW, .int u_1.1, .ref aT, .ref aL, .int u_4])), (aT, .inr (5, [.ref aS, .int T_length])), (aS, .inl (cS, 60, .inl fS)), (aL, .inr (1, [.ref aP, .int u_1.2.2.2.1, .int u_1.2.2.2.2.1, .ref rL_values, .int L_top]))] H locs := hq
  have nxh := nx_u_4
  refine lv_istore_n (lv' := [(2, .int r_5), (0, .ref aR), (1, .int p1)]) hx hb dX2_readHeld_9 rfl hl (by decide) rfl (fun ls hl => ?_)
  refine lv_iload_n hx hb dX2_readHeld_10 rfl (lv_at hl 0 rfl) ?_
  refine lv_bipush (v := 60) hx hb dX2_readHeld_11 (by decide) ?_
  refine lv_icmp_eq (tgt := 28) hx hb dX2_readHeld_13 (by decide) (fun c_7 => ?_) (fun c_7 => ?_)
  · skip
    have hlt := nx_use nxh c_7 (by decide)
    refine lv_aload_n hx hb dX2_readHeld_28 rfl (lv_at hl 1 rfl) ?_
    refine lv_dup hx hb dX2_readHeld_29 rfl ?_
    refine kk_get (ci := 2) (v := .int u_4) (C := RX2) (T := TX2) (N := 5) hx hb hts iX2 hown hK hq 2 rfl rfl 4 (by decide) lk0_ rfl dX2_readHeld_30 ?_
    refine lv_iconst (v := 1) hx hb dX2_readHeld_33 (by decide) ?_
    refine lv_iadd hx hb dX2_readHeld_34 ?_
    refine lv_topi (fun at_8 eat_8 => ?_)
    refine kk_put (ws' := [(aW, .inl (cW, 60, .inl u_1.2.2.1)), (aP, .inl (cP, 60, .inl u_1.2.2.2.2.2)), (aR, .inr (2, [.ref aW, .int u_1.1, .ref aT, .ref aL, .int at_8])), (aT, .inr (5, [.ref aS, .int T_length])), (aS, .inl (cS, 60, .inl fS)), (aL, .inr (1, [.ref aP, .int u_1.2.2.2.1, .int u_1.2.2.2.2.1, .ref rL_values, .int L_top]))]) (ci := 2) (v := .int at_8) (C := RX2) (T := TX2) (N := 5) hx hb hts iX2 tyX2_ok nmX2 hown hK hq 2 rfl rfl 4 (by decide) lk0_ rfl rfl rfl (Nat.le_of_ble_eq_true rfl) dX2_readHeld_35 rfl (fun H locs hq => ?_)
    have hat_8 := at_inc eat_8 (by assumption) hlt
    have q0at_8 : 0 ≤ at_8.toInt := hat_8.1
    have q1at_8 : at_8.toInt ≤ 60 := hat_8.2
    refine lv_aload_n hx hb dX2_readHeld_38 rfl (lv_at hl 1 rfl) ?_
    refine lv_iload_n hx hb dX2_readHeld_39 rfl (lv_at hl 2 rfl) ?_
    refine kk_Vv (As := [.int p1]) (rest := []) (wr := []) ⟨hx, hb, hml, hown, hts⟩ (c_X2_readSum l G aR aW aT aS aL aP rL_values cW cS cP F Q p1 u_1.1 at_8 u_1.2.2.1 T_length fS u_1.2.2.2.1 u_1.2.2.2.2.1 L_top u_1.2.2.2.2.2 inn (by assumption) (by assumption) (by assumption) (by assumption) (by assumption) (by assumption) (by assumption) (by assumption)) (kk_cwV 1 hts hsb wd_240 wd_241 wd_242 wd_25 wd_244 rfl rfl hd_X2_readSum ⟨by dsimp only [headSpec]; omega, by dsimp only [headSpec]; omega⟩) hA hK hq [2, 0, 3, 4, 5, 1] [] [0, 1, 2] rfl rfl rfl (by decide) (by decide) (by decide) 0 2 rfl rfl rfl rfl hl.1 rfl (Nat.le_of_ble_eq_true rfl) dX2_readHeld_40 ⟨Nat.zero_le _, Nat.zero_le _⟩ (fun u_9 H locs h_11 hq => ?_)
    obtain ⟨eu_9, q0_u_9, q1_u_9, w0_u_9, w1_u_9, k0_u_9, k1_u_9⟩ := h_11
    have hq : kAt G A s [(aR, .inr (2, [.ref aW, .int u_9.1, .ref aT, .ref aL, .int u_9.2.1])), (aW, .inl (cW, 60, .inl u_9.2.2.1)), (aT, .inr (5, [.ref aS, .int T_length])), (aS, .inl (cS, 60, .inl fS)), (aL, .inr (1, [.ref aP, .int u_9.2.2.2.1, .int u_9.2.2.2.2.1, .ref rL_values, .int L_top])), (aP, .inl (cP, 60, .inl u_9.2.2.2.2.2))] H locs := hq
    refine lv_aload_n hx hb dX2_readHeld_43 rfl (lv_at hl 1 rfl) ?_
    refine kk_get (ci := 2) (v := .ref aL) (C := RX2) (T := TX2) (N := 5) hx hb hts iX2 hown hK hq 0 rfl rfl 3 (by decide) lk1_ rfl dX2_readHeld_44 ?_
    refine lv_iload_n hx hb dX2_readHeld_47 rfl (lv_at hl 0 rfl) ?_
    refine kk_Vv (As := [.int r_5]) (rest := []) (wr := [(aR, .inr (2, [.ref aW, .int u_9.1, .ref aT, .ref aL, .int u_9.2.1])), (aW, .inl (cW, 60, .inl u_9.2.2.1)), (aT, .inr (5, [.ref aS, .int T_length])), (aS, .inl (cS, 60, .inl fS))]) ⟨hx, hb, hml, hown, hts⟩ (c_X1_addSign l G aL aP rL_values cP r_5 u_9.2.2.2.1 u_9.2.2.2.2.1 L_top u_9.2.2.2.2.2 (by assumption) (by assumption)) (kk_cwV 1 hts hsb wd_205 wd_206 wd_207 wd_21 wd_208 rfl rfl hd_X1_addSign ⟨by dsimp only [headSpec]; omega, by dsimp only [headSpec]; omega⟩) hA hK hq [4, 5] [0, 1, 2, 3] [2] rfl rfl rfl (by decide) (by decide) (by decide) 0 1 rfl rfl rfl rfl hl.1 rfl (Nat.le_of_ble_eq_true rfl) dX2_readHeld_48 ⟨Nat.zero_le _, Nat.zero_le _⟩ (fun u_12 H locs h_14 hq => ?_)
    obtain ⟨eu_12, k0_u_12, k1_u_12⟩ := h_14
    have hq : kAt G A s [(aR, .inr (2, [.ref aW, .int u_9.1, .ref aT, .ref aL, .int u_9.2.1])), (aW, .inl (cW, 60, .inl u_9.2.2.1)), (aT, .inr (5, [.ref aS, .int T_length])), (aS, .inl (cS, 60, .inl fS)), (aL, .inr (1, [.ref aP, .int u_12.1, .int u_9.2.2.2.2.1, .ref rL_values, .int L_top])), (aP, .inl (cP, 60, .inl u_12.2))] H locs := hq
    have hf : ((u_9.1, u_9.2.1, u_9.2.2.1, u_12.1, u_9.2.2.2.2.1, u_12.2) : Int32 × Int32 × (Nat → Int32) × Int32 × Int32 × (Nat → Int32)) = fX2_readHeld inn R_waitingCount R_at fW T_length fS L_count L_fault fP := by
      exact ((congrArg (fun (u_1 : Int32 × Int32 × (Nat → Int32) × Int32 × Int32 × (Nat → Int32)) => ((let r_5 : Int32 := (fX2_nextSign u_1.2.1 T_length fS u_1.2.2.2.2.1).1
  let u_4 : Int32 := (fX2_nextSign u_1.2.1 T_length fS u_1.2.2.2.2.1).2
  if r_5 = 60 then (
    let at_8 : Int32 := u_4 + 1
    let u_9 : Int32 × Int32 × (Nat → Int32) × Int32 × Int32 × (Nat → Int32) := fX2_readSum inn u_1.1 at_8 u_1.2.2.1 T_length fS u_1.2.2.2.1 u_1.2.2.2.2.1 u_1.2.2.2.2.2
    let u_12 : Int32 × (Nat → Int32) := fX1_addSign r_5 u_9.2.2.2.1 u_9.2.2.2.2.2
    (u_9.1, u_9.2.1, u_9.2.2.1, u_12.1, u_9.2.2.2.2.1, u_12.2))
  else (
    if r_5 = 62 then (
      let at_16 : Int32 := u_4 + 1
      let u_17 : Int32 × Int32 × (Nat → Int32) × Int32 × Int32 × (Nat → Int32) := fX2_readSum inn u_1.1 at_16 u_1.2.2.1 T_length fS u_1.2.2.2.1 u_1.2.2.2.2.1 u_1.2.2.2.2.2
      let u_20 : Int32 × (Nat → Int32) := fX1_addSign r_5 u_17.2.2.2.1 u_17.2.2.2.2.2
      (u_17.1, u_17.2.1, u_17.2.2.1, u_20.1, u_17.2.2.2.2.1, u_20.2))
    else (
      if r_5 = 61 then (
        let at_24 : Int32 := u_4 + 1
        let u_25 : Int32 × Int32 × (Nat → Int32) × Int32 × Int32 × (Nat → Int32) := fX2_readSum inn u_1.1 at_24 u_1.2.2.1 T_length fS u_1.2.2.2.1 u_1.2.2.2.2.1 u_1.2.2.2.2.2
        let u_28 : Int32 × (Nat → Int32) := fX1_addSign r_5 u_25.2.2.2.1 u_25.2.2.2.2.2
        (u_25.1, u_25.2.1, u_25.2.2.1, u_28.1, u_25.2.2.2.2.1, u_28.2))
      else (
        (u_1.1, u_4, u_1.2.2.1, u_1.2.2.2.1, u_1.2.2.2.2.1, u_1.2.2.2.2.2))))) : Int32 × Int32 × (Nat → Int32) × Int32 × Int32 × (Nat → Int32))) eu_1.symm).trans ((congrArg (fun (r_5 : Int32) => ((let u_4 : Int32 := (fX2_nextSign u_1.2.1 T_length fS u_1.2.2.2.2.1).2
  if r_5 = 60 then (
    let at_8 : Int32 := u_4 + 1
    let u_9 : Int32 × Int32 × (Nat → Int32) × Int32 × Int32 × (Nat → Int32) := fX2_readSum inn u_1.1 at_8 u_1.2.2.1 T_length fS u_1.2.2.2.1 u_1.2.2.2.2.1 u_1.2.2.2.2.2
    let u_12 : Int32 × (Nat → Int32) := fX1_addSign r_5 u_9.2.2.2.1 u_9.2.2.2.2.2
    (u_9.1, u_9.2.1, u_9.2.2.1, u_12.1, u_9.2.2.2.2.1, u_12.2))
  else (
    if r_5 = 62 then (
      let at_16 : Int32 := u_4 + 1
      let u_17 : Int32 × Int32 × (Nat → Int32) × Int32 × Int32 × (Nat → Int32) := fX2_readSum inn u_1.1 at_16 u_1.2.2.1 T_length fS u_1.2.2.2.1 u_1.2.2.2.2.1 u_1.2.2.2.2.2
      let u_20 : Int32 × (Nat → Int32) := fX1_addSign r_5 u_17.2.2.2.1 u_17.2.2.2.2.2
      (u_17.1, u_17.2.1, u_17.2.2.1, u_20.1, u_17.2.2.2.2.1, u_20.2))
    else (
      if r_5 = 61 then (
        let at_24 : Int32 := u_4 + 1
        let u_25 : Int32 × Int32 × (Nat → Int32) × Int32 × Int32 × (Nat → Int32) := fX2_readSum inn u_1.1 at_24 u_1.2.2.1 T_length fS u_1.2.2.2.1 u_1.2.2.2.2.1 u_1.2.2.2.2.2
        let u_28 : Int32 × (Nat → Int32) := fX1_addSign r_5 u_25.2.2.2.1 u_25.2.2.2.2.2
        (u_25.1, u_25.2.1, u_25.2.2.1, u_28.1, u_25.2.2.2.2.1, u_28.2))
      else (
        (u_1.1, u_4, u_1.2.2.1, u_1.2.2.2.1, u_1.2.2.2.2.1, u_1.2.2.2.2.2))))) : Int32 × Int32 × (Nat → Int32) × Int32 × Int32 × (Nat → Int32))) er_5.symm).trans ((congrArg (fun (u_4 : Int32) => ((if r_5 = 60 then (
    let at_8 : Int32 := u_4 + 1
    let u_9 : Int32 × Int32 × (Nat → Int32) × Int32 × Int32 × (Nat → Int32) := fX2_readSum inn u_1.1 at_8 u_1.2.2.1 T_length fS u_1.2.2.2.1 u_1.2.2.2.2.1 u_1.2.2.2.2.2
    let u_12 : Int32 × (Nat → Int32) := fX1_addSign r_5 u_9.2.2.2.1 u_9.2.2.2.2.2
    (u_9.1, u_9.2.1, u_9.2.2.1, u_12.1, u_9.2.2.2.2.1, u_12.2))
  else (
    if r_5 = 62 then (
      let at_16 : Int32 := u_4 + 1
      let u_17 : Int32 × Int32 × (Nat → Int32) × Int32 × Int32 × (Nat → Int32) := fX2_readSum inn u_1.1 at_16 u_1.2.2.1 T_length fS u_1.2.2.2.1 u_1.2.2.2.2.1 u_1.2.2.2.2.2
      let u_20 : Int32 × (Nat → Int32) := fX1_addSign r_5 u_17.2.2.2.1 u_17.2.2.2.2.2
      (u_17.1, u_17.2.1, u_17.2.2.1, u_20.1, u_17.2.2.2.2.1, u_20.2))
    else (
      if r_5 = 61 then (
        let at_24 : Int32 := u_4 + 1
        let u_25 : Int32 × Int32 × (Nat → Int32) × Int32 × Int32 × (Nat → Int32) := fX2_readSum inn u_1.1 at_24 u_1.2.2.1 T_length fS u_1.2.2.2.1 u_1.2.2.2.2.1 u_1.2.2.2.2.2
        let u_28 : Int32 × (Nat → Int32) := fX1_addSign r_5 u_25.2.2.2.1 u_25.2.2.2.2.2
        (u_25.1, u_25.2.1, u_25.2.2.1, u_28.1, u_25.2.2.2.2.1, u_28.2))
      else (
        (u_1.1, u_4, u_1.2.2.1, u_1.2.2.2.1, u_1.2.2.2.2.1, u_1.2.2.2.2.2))))) : Int32 × Int32 × (Nat → Int32) × Int32 × Int32 × (Nat → Int32))) eu_4.symm).trans ((if_pos c_7).trans ((congrArg (fun (at_8 : Int32) => ((let u_9 : Int32 × Int32 × (Nat → Int32) × Int32 × Int32 × (Nat → Int32) := fX2_readSum inn u_1.1 at_8 u_1.2.2.1 T_length fS u_1.2.2.2.1 u_1.2.2.2.2.1 u_1.2.2.2.2.2
  let u_12 : Int32 × (Nat → Int32) := fX1_addSign r_5 u_9.2.2.2.1 u_9.2.2.2.2.2
  (u_9.1, u_9.2.1, u_9.2.2.1, u_12.1, u_9.2.2.2.2.1, u_12.2)) : Int32 × Int32 × (Nat → Int32) × Int32 × Int32 × (Nat → Int32))) eat_8.symm).trans ((congrArg (fun (u_9 : Int32 × Int32 × (Nat → Int32) × Int32 × Int32 × (Nat → Int32)) => ((let u_12 : Int32 × (Nat → Int32) := fX1_addSign r_5 u_9.2.2.2.1 u_9.2.2.2.2.2
  (u_9.1, u_9.2.1, u_9.2.2.1, u_12.1, u_9.2.2.2.2.1, u_12.2)) : Int32 × Int32 × (Nat → Int32) × Int32 × Int32 × (Nat → Int32))) eu_9.symm).trans ((congrArg (fun (u_12 : Int32 × (Nat → Int32)) => (((u_9.1, u_9.2.1, u_9.2.2.1, u_12.1, u_9.2.2.2.2.1, u_12.2)) : Int32 × Int32 × (Nat → Int32) × Int32 × Int32 × (Nat → Int32))) eu_12.symm)))))))).symm
    have en_0 : 0 ≤ u_9.2.1.toInt := by first | assumption | omega
    have en_1 : u_9.2.1.toInt ≤ 60 := by first | assumption | omega
    have en_2 : 0 ≤ u_9.1.toInt := by first | assumption | omega
    have en_3 : u_9.1.toInt ≤ 60 := by first | assumption | omega
    have en_4 : 0 ≤ u_12.1.toInt := by first | assumption | omega
    have en_5 : u_12.1.toInt ≤ 60 := by first | assumption | omega
    exact kk_ev hx hb hr hlocks hK hq [0, 1, 2, 3, 4, 5] (u_9.1, u_9.2.1, u_9.2.2.1, u_12.1, u_9.2.2.2.2.1, u_12.2) rfl (by decide) dX2_readHeld_51 ⟨hf, en_0, en_1, en_2, en_3, en_4, en_5⟩
  · skip
    refine lv_iload_n hx hb dX2_readHeld_16 rfl (lv_at hl 0 rfl) ?_
    refine lv_bipush (v := 62) hx hb dX2_readHeld_17 (by decide) ?_
    refine lv_icmp_eq (tgt := 28) hx hb dX2_readHeld_19 (by decide) (fun c_15 => ?_) (fun c_15 => ?_)
    · skip
      have hlt := nx_use nxh c_15 (by decide)
      refine lv_aload_n hx hb dX2_readHeld_28 rfl (lv_at hl 1 rfl) ?_
      refine lv_dup hx hb dX2_readHeld_29 rfl ?_
      refine kk_get (ci := 2) (v := .int u_4) (C := RX2) (T := TX2) (N := 5) hx hb hts iX2 hown hK hq 2 rfl rfl 4 (by decide) lk0_ rfl dX2_readHeld_30 ?_
      refine lv_iconst (v := 1) hx hb dX2_readHeld_33 (by decide) ?_
      refine lv_iadd hx hb dX2_readHeld_34 ?_
      refine lv_topi (fun at_16 eat_16 => ?_)
      refine kk_put (ws' := [(aW, .inl (cW, 60, .inl u_1.2.2.1)), (aP, .inl (cP, 60, .inl u_1.2.2.2.2.2)), (aR, .inr (2, [.ref aW, .int u_1.1, .ref aT, .ref aL, .int at_16])), (aT, .inr (5, [.ref aS, .int T_length])), (aS, .inl (cS, 60, .inl fS)), (aL, .inr (1, [.ref aP, .int u_1.2.2.2.1, .int u_1.2.2.2.2.1, .ref rL_values, .int L_top]))]) (ci := 2) (v := .int at_16) (C := RX2) (T := TX2) (N := 5) hx hb hts iX2 tyX2_ok nmX2 hown hK hq 2 rfl rfl 4 (by decide) lk0_ rfl rfl rfl (Nat.le_of_ble_eq_true rfl) dX2_readHeld_35 rfl (fun H locs hq => ?_)
      have hat_16 := at_inc eat_16 (by assumption) hlt
      have q0at_16 : 0 ≤ at_16.toInt := hat_16.1
      have q1at_16 : at_16.toInt ≤ 60 := hat_16.2
      refine lv_aload_n hx hb dX2_readHeld_38 rfl (lv_at hl 1 rfl) ?_
      refine lv_iload_n hx hb dX2_readHeld_39 rfl (lv_at hl 2 rfl) ?_
      refine kk_Vv (As := [.int p1]) (rest := []) (wr := []) ⟨hx, hb, hml, hown, hts⟩ (c_X2_readSum l G aR aW aT aS aL aP rL_values cW cS cP F Q p1 u_1.1 at_16 u_1.2.2.1 T_length fS u_1.2.2.2.1 u_1.2.2.2.2.1 L_top u_1.2.2.2.2.2 inn (by assumption) (by assumption) (by assumption) (by assumption) (by assumption) (by assumption) (by assumption) (by assumption)) (kk_cwV 1 hts hsb wd_240 wd_241 wd_242 wd_25 wd_244 rfl rfl hd_X2_readSum ⟨by dsimp only [headSpec]; omega, by dsimp only [headSpec]; omega⟩) hA hK hq [2, 0, 3, 4, 5, 1] [] [0, 1, 2] rfl rfl rfl (by decide) (by decide) (by decide) 0 2 rfl rfl rfl rfl hl.1 rfl (Nat.le_of_ble_eq_true rfl) dX2_readHeld_40 ⟨Nat.zero_le _, Nat.zero_le _⟩ (fun u_17 H locs h_19 hq => ?_)
      obtain ⟨eu_17, q0_u_17, q1_u_17, w0_u_17, w1_u_17, k0_u_17, k1_u_17⟩ := h_19
      have hq : kAt G A s [(aR, .inr (2, [.ref aW, .int u_17.1, .ref aT, .ref aL, .int u_17.2.1])), (aW, .inl (cW, 60, .inl u_17.2.2.1)), (aT, .inr (5, [.ref aS, .int T_length])), (aS, .inl (cS, 60, .inl fS)), (aL, .inr (1, [.ref aP, .int u_17.2.2.2.1, .int u_17.2.2.2.2.1, .ref rL_values, .int L_top])), (aP, .inl (cP, 60, .inl u_17.2.2.2.2.2))] H locs := hq
      refine lv_aload_n hx hb dX2_readHeld_43 rfl (lv_at hl 1 rfl) ?_
      refine kk_get (ci := 2) (v := .ref aL) (C := RX2) (T := TX2) (N := 5) hx hb hts iX2 hown hK hq 0 rfl rfl 3 (by decide) lk1_ rfl dX2_readHeld_44 ?_
      refine lv_iload_n hx hb dX2_readHeld_47 rfl (lv_at hl 0 rfl) ?_
      refine kk_Vv (As := [.int r_5]) (rest := []) (wr := [(aR, .inr (2, [.ref aW, .int u_17.1, .ref aT, .ref aL, .int u_17.2.1])), (aW, .inl (cW, 60, .inl u_17.2.2.1)), (aT, .inr (5, [.ref aS, .int T_length])), (aS, .inl (cS, 60, .inl fS))]) ⟨hx, hb, hml, hown, hts⟩ (c_X1_addSign l G aL aP rL_values cP r_5 u_17.2.2.2.1 u_17.2.2.2.2.1 L_top u_17.2.2.2.2.2 (by assumption) (by assumption)) (kk_cwV 1 hts hsb wd_205 wd_206 wd_207 wd_21 wd_208 rfl rfl hd_X1_addSign ⟨by dsimp only [headSpec]; omega, by dsimp only [headSpec]; omega⟩) hA hK hq [4, 5] [0, 1, 2, 3] [2] rfl rfl rfl (by decide) (by decide) (by decide) 0 1 rfl rfl rfl rfl hl.1 rfl (Nat.le_of_ble_eq_true rfl) dX2_readHeld_48 ⟨Nat.zero_le _, Nat.zero_le _⟩ (fun u_20 H locs h_22 hq => ?_)
      obtain ⟨eu_20, k0_u_20, k1_u_20⟩ := h_22
      have hq : kAt G A s [(aR, .inr (2, [.ref aW, .int u_17.1, .ref aT, .ref aL, .int u_17.2.1])), (aW, .inl (cW, 60, .inl u_17.2.2.1)), (aT, .inr (5, [.ref aS, .int T_length])), (aS, .inl (cS, 60, .inl fS)), (aL, .inr (1, [.ref aP, .int u_20.1, .int u_17.2.2.2.2.1, .ref rL_values, .int L_top])), (aP, .inl (cP, 60, .inl u_20.2))] H locs := hq
      have hf : ((u_17.1, u_17.2.1, u_17.2.2.1, u_20.1, u_17.2.2.2.2.1, u_20.2) : Int32 × Int32 × (Nat → Int32) × Int32 × Int32 × (Nat → Int32)) = fX2_readHeld inn R_waitingCount R_at fW T_length fS L_count L_fault fP := by
        exact ((congrArg (fun (u_1 : Int32 × Int32 × (Nat → Int32) × Int32 × Int32 × (Nat → Int32)) => ((let r_5 : Int32 := (fX2_nextSign u_1.2.1 T_length fS u_1.2.2.2.2.1).1
  let u_4 : Int32 := (fX2_nextSign u_1.2.1 T_length fS u_1.2.2.2.2.1).2
  if r_5 = 60 then (
    let at_8 : Int32 := u_4 + 1
    let u_9 : Int32 × Int32 × (Nat → Int32) × Int32 × Int32 × (Nat → Int32) := fX2_readSum inn u_1.1 at_8 u_1.2.2.1 T_length fS u_1.2.2.2.1 u_1.2.2.2.2.1 u_1.2.2.2.2.2
    let u_12 : Int32 × (Nat → Int32) := fX1_addSign r_5 u_9.2.2.2.1 u_9.2.2.2.2.2
    (u_9.1, u_9.2.1, u_9.2.2.1, u_12.1, u_9.2.2.2.2.1, u_12.2))
  else (
    if r_5 = 62 then (
      let at_16 : Int32 := u_4 + 1
      let u_17 : Int32 × Int32 × (Nat → Int32) × Int32 × Int32 × (Nat → Int32) := fX2_readSum inn u_1.1 at_16 u_1.2.2.1 T_length fS u_1.2.2.2.1 u_1.2.2.2.2.1 u_1.2.2.2.2.2
      let u_20 : Int32 × (Nat → Int32) := fX1_addSign r_5 u_17.2.2.2.1 u_17.2.2.2.2.2
      (u_17.1, u_17.2.1, u_17.2.2.1, u_20.1, u_17.2.2.2.2.1, u_20.2))
    else (
      if r_5 = 61 then (
        let at_24 : Int32 := u_4 + 1
        let u_25 : Int32 × Int32 × (Nat → Int32) × Int32 × Int32 × (Nat → Int32) := fX2_readSum inn u_1.1 at_24 u_1.2.2.1 T_length fS u_1.2.2.2.1 u_1.2.2.2.2.1 u_1.2.2.2.2.2
        let u_28 : Int32 × (Nat → Int32) := fX1_addSign r_5 u_25.2.2.2.1 u_25.2.2.2.2.2
        (u_25.1, u_25.2.1, u_25.2.2.1, u_28.1, u_25.2.2.2.2.1, u_28.2))
      else (
        (u_1.1, u_4, u_1.2.2.1, u_1.2.2.2.1, u_1.2.2.2.2.1, u_1.2.2.2.2.2))))) : Int32 × Int32 × (Nat → Int32) × Int32 × Int32 × (Nat → Int32))) eu_1.symm).trans ((congrArg (fun (r_5 : Int32) => ((let u_4 : Int32 := (fX2_nextSign u_1.2.1 T_length fS u_1.2.2.2.2.1).2
  if r_5 = 60 then (
    let at_8 : Int32 := u_4 + 1
    let u_9 : Int32 × Int32 × (Nat → Int32) × Int32 × Int32 × (Nat → Int32) := fX2_readSum inn u_1.1 at_8 u_1.2.2.1 T_length fS u_1.2.2.2.1 u_1.2.2.2.2.1 u_1.2.2.2.2.2
    let u_12 : Int32 × (Nat → Int32) := fX1_addSign r_5 u_9.2.2.2.1 u_9.2.2.2.2.2
    (u_9.1, u_9.2.1, u_9.2.2.1, u_12.1, u_9.2.2.2.2.1, u_12.2))
  else (
    if r_5 = 62 then (
      let at_16 : Int32 := u_4 + 1
      let u_17 : Int32 × Int32 × (Nat → Int32) × Int32 × Int32 × (Nat → Int32) := fX2_readSum inn u_1.1 at_16 u_1.2.2.1 T_length fS u_1.2.2.2.1 u_1.2.2.2.2.1 u_1.2.2.2.2.2
      let u_20 : Int32 × (Nat → Int32) := fX1_addSign r_5 u_17.2.2.2.1 u_17.2.2.2.2.2
      (u_17.1, u_17.2.1, u_17.2.2.1, u_20.1, u_17.2.2.2.2.1, u_20.2))
    else (
      if r_5 = 61 then (
        let at_24 : Int32 := u_4 + 1
        let u_25 : Int32 × Int32 × (Nat → Int32) × Int32 × Int32 × (Nat → Int32) := fX2_readSum inn u_1.1 at_24 u_1.2.2.1 T_length fS u_1.2.2.2.1 u_1.2.2.2.2.1 u_1.2.2.2.2.2
        let u_28 : Int32 × (Nat → Int32) := fX1_addSign r_5 u_25.2.2.2.1 u_25.2.2.2.2.2
        (u_25.1, u_25.2.1, u_25.2.2.1, u_28.1, u_25.2.2.2.2.1, u_28.2))
      else (
        (u_1.1, u_4, u_1.2.2.1, u_1.2.2.2.1, u_1.2.2.2.2.1, u_1.2.2.2.2.2))))) : Int32 × Int32 × (Nat → Int32) × Int32 × Int32 × (Nat → Int32))) er_5.symm).trans ((congrArg (fun (u_4 : Int32) => ((if r_5 = 60 then (
    let at_8 : Int32 := u_4 + 1
    let u_9 : Int32 × Int32 × (Nat → Int32) × Int32 × Int32 × (Nat → Int32) := fX2_readSum inn u_1.1 at_8 u_1.2.2.1 T_length fS u_1.2.2.2.1 u_1.2.2.2.2.1 u_1.2.2.2.2.2
    let u_12 : Int32 × (Nat → Int32) := fX1_addSign r_5 u_9.2.2.2.1 u_9.2.2.2.2.2
    (u_9.1, u_9.2.1, u_9.2.2.1, u_12.1, u_9.2.2.2.2.1, u_12.2))
  else (
    if r_5 = 62 then (
      let at_16 : Int32 := u_4 + 1
      let u_17 : Int32 × Int32 × (Nat → Int32) × Int32 × Int32 × (Nat → Int32) := fX2_readSum inn u_1.1 at_16 u_1.2.2.1 T_length fS u_1.2.2.2.1 u_1.2.2.2.2.1 u_1.2.2.2.2.2
      let u_20 : Int32 × (Nat → Int32) := fX1_addSign r_5 u_17.2.2.2.1 u_17.2.2.2.2.2
      (u_17.1, u_17.2.1, u_17.2.2.1, u_20.1, u_17.2.2.2.2.1, u_20.2))
    else (
      if r_5 = 61 then (
        let at_24 : Int32 := u_4 + 1
        let u_25 : Int32 × Int32 × (Nat → Int32) × Int32 × Int32 × (Nat → Int32) := fX2_readSum inn u_1.1 at_24 u_1.2.2.1 T_length fS u_1.2.2.2.1 u_1.2.2.2.2.1 u_1.2.2.2.2.2
        let u_28 : Int32 × (Nat → Int32) := fX1_addSign r_5 u_25.2.2.2.1 u_25.2.2.2.2.2
        (u_25.1, u_25.2.1, u_25.2.2.1, u_28.1, u_25.2.2.2.2.1, u_28.2))
      else (
        (u_1.1, u_4, u_1.2.2.1, u_1.2.2.2.1, u_1.2.2.2.2.1, u_1.2.2.2.2.2))))) : Int32 × Int32 × (Nat → Int32) × Int32 × Int32 × (Nat → Int32))) eu_4.symm).trans ((if_neg c_7).trans ((if_pos c_15).trans ((congrArg (fun (at_16 : Int32) => ((let u_17 : Int32 × Int32 × (Nat → Int32) × Int32 × Int32 × (Nat → Int32) := fX2_readSum inn u_1.1 at_16 u_1.2.2.1 T_length fS u_1.2.2.2.1 u_1.2.2.2.2.1 u_1.2.2.2.2.2
  let u_20 : Int32 × (Nat → Int32) := fX1_addSign r_5 u_17.2.2.2.1 u_17.2.2.2.2.2
  (u_17.1, u_17.2.1, u_17.2.2.1, u_20.1, u_17.2.2.2.2.1, u_20.2)) : Int32 × Int32 × (Nat → Int32) × Int32 × Int32 × (Nat → Int32))) eat_16.symm).trans ((congrArg (fun (u_17 : Int32 × Int32 × (Nat → Int32) × Int32 × Int32 × (Nat → Int32)) => ((let u_20 : Int32 × (Nat → Int32) := fX1_addSign r_5 u_17.2.2.2.1 u_17.2.2.2.2.2
  (u_17.1, u_17.2.1, u_17.2.2.1, u_20.1, u_17.2.2.2.2.1, u_20.2)) : Int32 × Int32 × (Nat → Int32) × Int32 × Int32 × (Nat → Int32))) eu_17.symm).trans ((congrArg (fun (u_20 : Int32 × (Nat → Int32)) => (((u_17.1, u_17.2.1, u_17.2.2.1, u_20.1, u_17.2.2.2.2.1, u_20.2)) : Int32 × Int32 × (Nat → Int32) × Int32 × Int32 × (Nat → Int32))) eu_20.symm))))))))).symm
      have en_0 : 0 ≤ u_17.2.1.toInt := by first | assumption | omega
      have en_1 : u_17.2.1.toInt ≤ 60 := by first | assumption | omega
      have en_2 : 0 ≤ u_17.1.toInt := by first | assumption | omega
      have en_3 : u_17.1.toInt ≤ 60 := by first | assumption | omega
      have en_4 : 0 ≤ u_20.1.toInt := by first | assumption | omega
      have en_5 : u_20.1.toInt ≤ 60 := by first | assumption | omega
      exact kk_ev hx hb hr hlocks hK hq [0, 1, 2, 3, 4, 5] (u_17.1, u_17.2.1, u_17.2.2.1, u_20.1, u_17.2.2.2.2.1, u_20.2) rfl (by decide) dX2_readHeld_51 ⟨hf, en_0, en_1, en_2, en_3, en_4, en_5⟩
    · skip
      refine lv_iload_n hx hb dX2_readHeld_22 rfl (lv_at hl 0 rfl) ?_
      refine lv_bipush (v := 61) hx hb dX2_readHeld_23 (by decide) ?_
      refine lv_icmp_ne (tgt := 51) hx hb dX2_readHeld_25 (by decide) (fun c_23 => ?_) (fun c_23 => ?_)
      · skip
        have hf : ((u_1.1, u_4, u_1.2.2.1, u_1.2.2.2.1, u_1.2.2.2.2.1, u_1.2.2.2.2.2) : Int32 × Int32 × (Nat → Int32) × Int32 × Int32 × (Nat → Int32)) = fX2_readHeld inn R_waitingCount R_at fW T_length fS L_count L_fault fP := by
          exact ((congrArg (fun (u_1 : Int32 × Int32 × (Nat → Int32) × Int32 × Int32 × (Nat → Int32)) => ((let r_5 : Int32 := (fX2_nextSign u_1.2.1 T_length fS u_1.2.2.2.2.1).1
  let u_4 : Int32 := (fX2_nextSign u_1.2.1 T_length fS u_1.2.2.2.2.1).2
  if r_5 = 60 then (
    let at_8 : Int32 := u_4 + 1
    let u_9 : Int32 × Int32 × (Nat → Int32) × Int32 × Int32 × (Nat → Int32) := fX2_readSum inn u_1.1 at_8 u_1.2.2.1 T_length fS u_1.2.2.2.1 u_1.2.2.2.2.1 u_1.2.2.2.2.2
    let u_12 : Int32 × (Nat → Int32) := fX1_addSign r_5 u_9.2.2.2.1 u_9.2.2.2.2.2
    (u_9.1, u_9.2.1, u_9.2.2.1, u_12.1, u_9.2.2.2.2.1, u_12.2))
  else (
    if r_5 = 62 then (
      let at_16 : Int32 := u_4 + 1
      let u_17 : Int32 × Int32 × (Nat → Int32) × Int32 × Int32 × (Nat → Int32) := fX2_readSum inn u_1.1 at_16 u_1.2.2.1 T_length fS u_1.2.2.2.1 u_1.2.2.2.2.1 u_1.2.2.2.2.2
      let u_20 : Int32 × (Nat → Int32) := fX1_addSign r_5 u_17.2.2.2.1 u_17.2.2.2.2.2
      (u_17.1, u_17.2.1, u_17.2.2.1, u_20.1, u_17.2.2.2.2.1, u_20.2))
    else (
      if r_5 = 61 then (
        let at_24 : Int32 := u_4 + 1
        let u_25 : Int32 × Int32 × (Nat → Int32) × Int32 × Int32 × (Nat → Int32) := fX2_readSum inn u_1.1 at_24 u_1.2.2.1 T_length fS u_1.2.2.2.1 u_1.2.2.2.2.1 u_1.2.2.2.2.2
        let u_28 : Int32 × (Nat → Int32) := fX1_addSign r_5 u_25.2.2.2.1 u_25.2.2.2.2.2
        (u_25.1, u_25.2.1, u_25.2.2.1, u_28.1, u_25.2.2.2.2.1, u_28.2))
      else (
        (u_1.1, u_4, u_1.2.2.1, u_1.2.2.2.1, u_1.2.2.2.2.1, u_1.2.2.2.2.2))))) : Int32 × Int32 × (Nat → Int32) × Int32 × Int32 × (Nat → Int32))) eu_1.symm).trans ((congrArg (fun (r_5 : Int32) => ((let u_4 : Int32 := (fX2_nextSign u_1.2.1 T_length fS u_1.2.2.2.2.1).2
  if r_5 = 60 then (
    let at_8 : Int32 := u_4 + 1
    let u_9 : Int32 × Int32 × (Nat → Int32) × Int32 × Int32 × (Nat → Int32) := fX2_readSum inn u_1.1 at_8 u_1.2.2.1 T_length fS u_1.2.2.2.1 u_1.2.2.2.2.1 u_1.2.2.2.2.2
    let u_12 : Int32 × (Nat → Int32) := fX1_addSign r_5 u_9.2.2.2.1 u_9.2.2.2.2.2
    (u_9.1, u_9.2.1, u_9.2.2.1, u_12.1, u_9.2.2.2.2.1, u_12.2))
  else (
    if r_5 = 62 then (
      let at_16 : Int32 := u_4 + 1
      let u_17 : Int32 × Int32 × (Nat → Int32) × Int32 × Int32 × (Nat → Int32) := fX2_readSum inn u_1.1 at_16 u_1.2.2.1 T_length fS u_1.2.2.2.1 u_1.2.2.2.2.1 u_1.2.2.2.2.2
      let u_20 : Int32 × (Nat → Int32) := fX1_addSign r_5 u_17.2.2.2.1 u_17.2.2.2.2.2
      (u_17.1, u_17.2.1, u_17.2.2.1, u_20.1, u_17.2.2.2.2.1, u_20.2))
    else (
      if r_5 = 61 then (
        let at_24 : Int32 := u_4 + 1
        let u_25 : Int32 × Int32 × (Nat → Int32) × Int32 × Int32 × (Nat → Int32) := fX2_readSum inn u_1.1 at_24 u_1.2.2.1 T_length fS u_1.2.2.2.1 u_1.2.2.2.2.1 u_1.2.2.2.2.2
        let u_28 : Int32 × (Nat → Int32) := fX1_addSign r_5 u_25.2.2.2.1 u_25.2.2.2.2.2
        (u_25.1, u_25.2.1, u_25.2.2.1, u_28.1, u_25.2.2.2.2.1, u_28.2))
      else (
        (u_1.1, u_4, u_1.2.2.1, u_1.2.2.2.1, u_1.2.2.2.2.1, u_1.2.2.2.2.2))))) : Int32 × Int32 × (Nat → Int32) × Int32 × Int32 × (Nat → Int32))) er_5.symm).trans ((congrArg (fun (u_4 : Int32) => ((if r_5 = 60 then (
    let at_8 : Int32 := u_4 + 1
    let u_9 : Int32 × Int32 × (Nat → Int32) × Int32 × Int32 × (Nat → Int32) := fX2_readSum inn u_1.1 at_8 u_1.2.2.1 T_length fS u_1.2.2.2.1 u_1.2.2.2.2.1 u_1.2.2.2.2.2
    let u_12 : Int32 × (Nat → Int32) := fX1_addSign r_5 u_9.2.2.2.1 u_9.2.2.2.2.2
    (u_9.1, u_9.2.1, u_9.2.2.1, u_12.1, u_9.2.2.2.2.1, u_12.2))
  else (
    if r_5 = 62 then (
      let at_16 : Int32 := u_4 + 1
      let u_17 : Int32 × Int32 × (Nat → Int32) × Int32 × Int32 × (Nat → Int32) := fX2_readSum inn u_1.1 at_16 u_1.2.2.1 T_length fS u_1.2.2.2.1 u_1.2.2.2.2.1 u_1.2.2.2.2.2
      let u_20 : Int32 × (Nat → Int32) := fX1_addSign r_5 u_17.2.2.2.1 u_17.2.2.2.2.2
      (u_17.1, u_17.2.1, u_17.2.2.1, u_20.1, u_17.2.2.2.2.1, u_20.2))
    else (
      if r_5 = 61 then (
        let at_24 : Int32 := u_4 + 1
        let u_25 : Int32 × Int32 × (Nat → Int32) × Int32 × Int32 × (Nat → Int32) := fX2_readSum inn u_1.1 at_24 u_1.2.2.1 T_length fS u_1.2.2.2.1 u_1.2.2.2.2.1 u_1.2.2.2.2.2
        let u_28 : Int32 × (Nat → Int32) := fX1_addSign r_5 u_25.2.2.2.1 u_25.2.2.2.2.2
        (u_25.1, u_25.2.1, u_25.2.2.1, u_28.1, u_25.2.2.2.2.1, u_28.2))
      else (
        (u_1.1, u_4, u_1.2.2.1, u_1.2.2.2.1, u_1.2.2.2.2.1, u_1.2.2.2.2.2))))) : Int32 × Int32 × (Nat → Int32) × Int32 × Int32 × (Nat → Int32))) eu_4.symm).trans ((if_neg c_7).trans ((if_neg c_15).trans ((if_neg c_23))))))).symm
        have en_0 : 0 ≤ u_4.toInt := by first | assumption | omega
        have en_1 : u_4.toInt ≤ 60 := by first | assumption | omega
        have en_2 : 0 ≤ u_1.1.toInt := by first | assumption | omega
        have en_3 : u_1.1.toInt ≤ 60 := by first | assumption | omega
        have en_4 : 0 ≤ u_1.2.2.2.1.toInt := by first | assumption | omega
        have en_5 : u_1.2.2.2.1.toInt ≤ 60 := by first | assumption | omega
        exact kk_ev hx hb hr hlocks hK hq [2, 0, 3, 4, 5, 1] (u_1.1, u_4, u_1.2.2.1, u_1.2.2.2.1, u_1.2.2.2.2.1, u_1.2.2.2.2.2) rfl (by decide) dX2_readHeld_51 ⟨hf, en_0, en_1, en_2, en_3, en_4, en_5⟩
      · skip
        have hlt := nx_use nxh c_23 (by decide)
        refine lv_aload_n hx hb dX2_readHeld_28 rfl (lv_at hl 1 rfl) ?_
        refine lv_dup hx hb dX2_readHeld_29 rfl ?_
        refine kk_get (ci := 2) (v := .int u_4) (C := RX2) (T := TX2) (N := 5) hx hb hts iX2 hown hK hq 2 rfl rfl 4 (by decide) lk0_ rfl dX2_readHeld_30 ?_
        refine lv_iconst (v := 1) hx hb dX2_readHeld_33 (by decide) ?_
        refine lv_iadd hx hb dX2_readHeld_34 ?_
        refine lv_topi (fun at_24 eat_24 => ?_)
        refine kk_put (ws' := [(aW, .inl (cW, 60, .inl u_1.2.2.1)), (aP, .inl (cP, 60, .inl u_1.2.2.2.2.2)), (aR, .inr (2, [.ref aW, .int u_1.1, .ref aT, .ref aL, .int at_24])), (aT, .inr (5, [.ref aS, .int T_length])), (aS, .inl (cS, 60, .inl fS)), (aL, .inr (1, [.ref aP, .int u_1.2.2.2.1, .int u_1.2.2.2.2.1, .ref rL_values, .int L_top]))]) (ci := 2) (v := .int at_24) (C := RX2) (T := TX2) (N := 5) hx hb hts iX2 tyX2_ok nmX2 hown hK hq 2 rfl rfl 4 (by decide) lk0_ rfl rfl rfl (Nat.le_of_ble_eq_true rfl) dX2_readHeld_35 rfl (fun H locs hq => ?_)
        have hat_24 := at_inc eat_24 (by assumption) hlt
        have q0at_24 : 0 ≤ at_24.toInt := hat_24.1
        have q1at_24 : at_24.toInt ≤ 60 := hat_24.2
        refine lv_aload_n hx hb dX2_readHeld_38 rfl (lv_at hl 1 rfl) ?_
        refine lv_iload_n hx hb dX2_readHeld_39 rfl (lv_at hl 2 rfl) ?_
        refine kk_Vv (As := [.int p1]) (rest := []) (wr := []) ⟨hx, hb, hml, hown, hts⟩ (c_X2_readSum l G aR aW aT aS aL aP rL_values cW cS cP F Q p1 u_1.1 at_24 u_1.2.2.1 T_length fS u_1.2.2.2.1 u_1.2.2.2.2.1 L_top u_1.2.2.2.2.2 inn (by assumption) (by assumption) (by assumption) (by assumption) (by assumption) (by assumption) (by assumption) (by assumption)) (kk_cwV 1 hts hsb wd_240 wd_241 wd_242 wd_25 wd_244 rfl rfl hd_X2_readSum ⟨by dsimp only [headSpec]; omega, by dsimp only [headSpec]; omega⟩) hA hK hq [2, 0, 3, 4, 5, 1] [] [0, 1, 2] rfl rfl rfl (by decide) (by decide) (by decide) 0 2 rfl rfl rfl rfl hl.1 rfl (Nat.le_of_ble_eq_true rfl) dX2_readHeld_40 ⟨Nat.zero_le _, Nat.zero_le _⟩ (fun u_25 H locs h_27 hq => ?_)
        obtain ⟨eu_25, q0_u_25, q1_u_25, w0_u_25, w1_u_25, k0_u_25, k1_u_25⟩ := h_27
        have hq : kAt G A s [(aR, .inr (2, [.ref aW, .int u_25.1, .ref aT, .ref aL, .int u_25.2.1])), (aW, .inl (cW, 60, .inl u_25.2.2.1)), (aT, .inr (5, [.ref aS, .int T_length])), (aS, .inl (cS, 60, .inl fS)), (aL, .inr (1, [.ref aP, .int u_25.2.2.2.1, .int u_25.2.2.2.2.1, .ref rL_values, .int L_top])), (aP, .inl (cP, 60, .inl u_25.2.2.2.2.2))] H locs := hq
        refine lv_aload_n hx hb dX2_readHeld_43 rfl (lv_at hl 1 rfl) ?_
        refine kk_get (ci := 2) (v := .ref aL) (C := RX2) (T := TX2) (N := 5) hx hb hts iX2 hown hK hq 0 rfl rfl 3 (by decide) lk1_ rfl dX2_readHeld_44 ?_
        refine lv_iload_n hx hb dX2_readHeld_47 rfl (lv_at hl 0 rfl) ?_
        refine kk_Vv (As := [.int r_5]) (rest := []) (wr := [(aR, .inr (2, [.ref aW, .int u_25.1, .ref aT, .ref aL, .int u_25.2.1])), (aW, .inl (cW, 60, .inl u_25.2.2.1)), (aT, .inr (5, [.ref aS, .int T_length])), (aS, .inl (cS, 60, .inl fS))]) ⟨hx, hb, hml, hown, hts⟩ (c_X1_addSign l G aL aP rL_values cP r_5 u_25.2.2.2.1 u_25.2.2.2.2.1 L_top u_25.2.2.2.2.2 (by assumption) (by assumption)) (kk_cwV 1 hts hsb wd_205 wd_206 wd_207 wd_21 wd_208 rfl rfl hd_X1_addSign ⟨by dsimp only [headSpec]; omega, by dsimp only [headSpec]; omega⟩) hA hK hq [4, 5] [0, 1, 2, 3] [2] rfl rfl rfl (by decide) (by decide) (by decide) 0 1 rfl rfl rfl rfl hl.1 rfl (Nat.le_of_ble_eq_true rfl) dX2_readHeld_48 ⟨Nat.zero_le _, Nat.zero_le _⟩ (fun u_28 H locs h_30 hq => ?_)
        obtain ⟨eu_28, k0_u_28, k1_u_28⟩ := h_30
        have hq : kAt G A s [(aR, .inr (2, [.ref aW, .int u_25.1, .ref aT, .ref aL, .int u_25.2.1])), (aW, .inl (cW, 60, .inl u_25.2.2.1)), (aT, .inr (5, [.ref aS, .int T_length])), (aS, .inl (cS, 60, .inl fS)), (aL, .inr (1, [.ref aP, .int u_28.1, .int u_25.2.2.2.2.1, .ref rL_values, .int L_top])), (aP, .inl (cP, 60, .inl u_28.2))] H locs := hq
        have hf : ((u_25.1, u_25.2.1, u_25.2.2.1, u_28.1, u_25.2.2.2.2.1, u_28.2) : Int32 × Int32 × (Nat → Int32) × Int32 × Int32 × (Nat → Int32)) = fX2_readHeld inn R_waitingCount R_at fW T_length fS L_count L_fault fP := by
          exact ((congrArg (fun (u_1 : Int32 × Int32 × (Nat → Int32) × Int32 × Int32 × (Nat → Int32)) => ((let r_5 : Int32 := (fX2_nextSign u_1.2.1 T_length fS u_1.2.2.2.2.1).1
  let u_4 : Int32 := (fX2_nextSign u_1.2.1 T_length fS u_1.2.2.2.2.1).2
  if r_5 = 60 then (
    let at_8 : Int32 := u_4 + 1
    let u_9 : Int32 × Int32 × (Nat → Int32) × Int32 × Int32 × (Nat → Int32) := fX2_readSum inn u_1.1 at_8 u_1.2.2.1 T_length fS u_1.2.2.2.1 u_1.2.2.2.2.1 u_1.2.2.2.2.2
    let u_12 : Int32 × (Nat → Int32) := fX1_addSign r_5 u_9.2.2.2.1 u_9.2.2.2.2.2
    (u_9.1, u_9.2.1, u_9.2.2.1, u_12.1, u_9.2.2.2.2.1, u_12.2))
  else (
    if r_5 = 62 then (
      let at_16 : Int32 := u_4 + 1
      let u_17 : Int32 × Int32 × (Nat → Int32) × Int32 × Int32 × (Nat → Int32) := fX2_readSum inn u_1.1 at_16 u_1.2.2.1 T_length fS u_1.2.2.2.1 u_1.2.2.2.2.1 u_1.2.2.2.2.2
      let u_20 : Int32 × (Nat → Int32) := fX1_addSign r_5 u_17.2.2.2.1 u_17.2.2.2.2.2
      (u_17.1, u_17.2.1, u_17.2.2.1, u_20.1, u_17.2.2.2.2.1, u_20.2))
    else (
      if r_5 = 61 then (
        let at_24 : Int32 := u_4 + 1
        let u_25 : Int32 × Int32 × (Nat → Int32) × Int32 × Int32 × (Nat → Int32) := fX2_readSum inn u_1.1 at_24 u_1.2.2.1 T_length fS u_1.2.2.2.1 u_1.2.2.2.2.1 u_1.2.2.2.2.2
        let u_28 : Int32 × (Nat → Int32) := fX1_addSign r_5 u_25.2.2.2.1 u_25.2.2.2.2.2
        (u_25.1, u_25.2.1, u_25.2.2.1, u_28.1, u_25.2.2.2.2.1, u_28.2))
      else (
        (u_1.1, u_4, u_1.2.2.1, u_1.2.2.2.1, u_1.2.2.2.2.1, u_1.2.2.2.2.2))))) : Int32 × Int32 × (Nat → Int32) × Int32 × Int32 × (Nat → Int32))) eu_1.symm).trans ((congrArg (fun (r_5 : Int32) => ((let u_4 : Int32 := (fX2_nextSign u_1.2.1 T_length fS u_1.2.2.2.2.1).2
  if r_5 = 60 then (
    let at_8 : Int32 := u_4 + 1
    let u_9 : Int32 × Int32 × (Nat → Int32) × Int32 × Int32 × (Nat → Int32) := fX2_readSum inn u_1.1 at_8 u_1.2.2.1 T_length fS u_1.2.2.2.1 u_1.2.2.2.2.1 u_1.2.2.2.2.2
    let u_12 : Int32 × (Nat → Int32) := fX1_addSign r_5 u_9.2.2.2.1 u_9.2.2.2.2.2
    (u_9.1, u_9.2.1, u_9.2.2.1, u_12.1, u_9.2.2.2.2.1, u_12.2))
  else (
    if r_5 = 62 then (
      let at_16 : Int32 := u_4 + 1
      let u_17 : Int32 × Int32 × (Nat → Int32) × Int32 × Int32 × (Nat → Int32) := fX2_readSum inn u_1.1 at_16 u_1.2.2.1 T_length fS u_1.2.2.2.1 u_1.2.2.2.2.1 u_1.2.2.2.2.2
      let u_20 : Int32 × (Nat → Int32) := fX1_addSign r_5 u_17.2.2.2.1 u_17.2.2.2.2.2
      (u_17.1, u_17.2.1, u_17.2.2.1, u_20.1, u_17.2.2.2.2.1, u_20.2))
    else (
      if r_5 = 61 then (
        let at_24 : Int32 := u_4 + 1
        let u_25 : Int32 × Int32 × (Nat → Int32) × Int32 × Int32 × (Nat → Int32) := fX2_readSum inn u_1.1 at_24 u_1.2.2.1 T_length fS u_1.2.2.2.1 u_1.2.2.2.2.1 u_1.2.2.2.2.2
        let u_28 : Int32 × (Nat → Int32) := fX1_addSign r_5 u_25.2.2.2.1 u_25.2.2.2.2.2
        (u_25.1, u_25.2.1, u_25.2.2.1, u_28.1, u_25.2.2.2.2.1, u_28.2))
      else (
        (u_1.1, u_4, u_1.2.2.1, u_1.2.2.2.1, u_1.2.2.2.2.1, u_1.2.2.2.2.2))))) : Int32 × Int32 × (Nat → Int32) × Int32 × Int32 × (Nat → Int32))) er_5.symm).trans ((congrArg (fun (u_4 : Int32) => ((if r_5 = 60 then (
    let at_8 : Int32 := u_4 + 1
    let u_9 : Int32 × Int32 × (Nat → Int32) × Int32 × Int32 × (Nat → Int32) := fX2_readSum inn u_1.1 at_8 u_1.2.2.1 T_length fS u_1.2.2.2.1 u_1.2.2.2.2.1 u_1.2.2.2.2.2
    let u_12 : Int32 × (Nat → Int32) := fX1_addSign r_5 u_9.2.2.2.1 u_9.2.2.2.2.2
    (u_9.1, u_9.2.1, u_9.2.2.1, u_12.1, u_9.2.2.2.2.1, u_12.2))
  else (
    if r_5 = 62 then (
      let at_16 : Int32 := u_4 + 1
      let u_17 : Int32 × Int32 × (Nat → Int32) × Int32 × Int32 × (Nat → Int32) := fX2_readSum inn u_1.1 at_16 u_1.2.2.1 T_length fS u_1.2.2.2.1 u_1.2.2.2.2.1 u_1.2.2.2.2.2
      let u_20 : Int32 × (Nat → Int32) := fX1_addSign r_5 u_17.2.2.2.1 u_17.2.2.2.2.2
      (u_17.1, u_17.2.1, u_17.2.2.1, u_20.1, u_17.2.2.2.2.1, u_20.2))
    else (
      if r_5 = 61 then (
        let at_24 : Int32 := u_4 + 1
        let u_25 : Int32 × Int32 × (Nat → Int32) × Int32 × Int32 × (Nat → Int32) := fX2_readSum inn u_1.1 at_24 u_1.2.2.1 T_length fS u_1.2.2.2.1 u_1.2.2.2.2.1 u_1.2.2.2.2.2
        let u_28 : Int32 × (Nat → Int32) := fX1_addSign r_5 u_25.2.2.2.1 u_25.2.2.2.2.2
        (u_25.1, u_25.2.1, u_25.2.2.1, u_28.1, u_25.2.2.2.2.1, u_28.2))
      else (
        (u_1.1, u_4, u_1.2.2.1, u_1.2.2.2.1, u_1.2.2.2.2.1, u_1.2.2.2.2.2))))) : Int32 × Int32 × (Nat → Int32) × Int32 × Int32 × (Nat → Int32))) eu_4.symm).trans ((if_neg c_7).trans ((if_neg c_15).trans ((if_pos c_23).trans ((congrArg (fun (at_24 : Int32) => ((let u_25 : Int32 × Int32 × (Nat → Int32) × Int32 × Int32 × (Nat → Int32) := fX2_readSum inn u_1.1 at_24 u_1.2.2.1 T_length fS u_1.2.2.2.1 u_1.2.2.2.2.1 u_1.2.2.2.2.2
  let u_28 : Int32 × (Nat → Int32) := fX1_addSign r_5 u_25.2.2.2.1 u_25.2.2.2.2.2
  (u_25.1, u_25.2.1, u_25.2.2.1, u_28.1, u_25.2.2.2.2.1, u_28.2)) : Int32 × Int32 × (Nat → Int32) × Int32 × Int32 × (Nat → Int32))) eat_24.symm).trans ((congrArg (fun (u_25 : Int32 × Int32 × (Nat → Int32) × Int32 × Int32 × (Nat → Int32)) => ((let u_28 : Int32 × (Nat → Int32) := fX1_addSign r_5 u_25.2.2.2.1 u_25.2.2.2.2.2
  (u_25.1, u_25.2.1, u_25.2.2.1, u_28.1, u_25.2.2.2.2.1, u_28.2)) : Int32 × Int32 × (Nat → Int32) × Int32 × Int32 × (Nat → Int32))) eu_25.symm).trans ((congrArg (fun (u_28 : Int32 × (Nat → Int32)) => (((u_25.1, u_25.2.1, u_25.2.2.1, u_28.1, u_25.2.2.2.2.1, u_28.2)) : Int32 × Int32 × (Nat → Int32) × Int32 × Int32 × (Nat → Int32))) eu_28.symm)))))))))).symm
        have en_0 : 0 ≤ u_25.2.1.toInt := by first | assumption | omega
        have en_1 : u_25.2.1.toInt ≤ 60 := by first | assumption | omega
        have en_2 : 0 ≤ u_25.1.toInt := by first | assumption | omega
        have en_3 : u_25.1.toInt ≤ 60 := by first | assumption | omega
        have en_4 : 0 ≤ u_28.1.toInt := by first | assumption | omega
        have en_5 : u_28.1.toInt ≤ 60 := by first | assumption | omega
        exact kk_ev hx hb hr hlocks hK hq [0, 1, 2, 3, 4, 5] (u_25.1, u_25.2.1, u_25.2.2.1, u_28.1, u_25.2.2.2.2.1, u_28.2) rfl (by decide) dX2_readHeld_51 ⟨hf, en_0, en_1, en_2, en_3, en_4, en_5⟩
