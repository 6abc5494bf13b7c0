/-- what readInner does, taken as given while the rest of the group is walked -/
def hy_inner (l : Launch) (G : va_G) (aR aW aT aS aL aP rL_values : Nat) (cW cS cP : ClassId) (F Q : Nat) (p1 : Int32) (T_length : Int32) (fS : Nat → Int32) (inn : Int32 → Int32 → (Nat → Int32) → Int32 → Int32 → (Nat → Int32) → Int32 × Int32 × (Nat → Int32) × Int32 × Int32 × (Nat → Int32)) : Prop :=
  ∀ (R_waitingCount R_at : Int32) (fW : Nat → Int32) (L_count L_fault L_top : Int32) (fP : Nat → Int32), 0 ≤ R_at.toInt → R_at.toInt ≤ 60 → 0 ≤ R_waitingCount.toInt → R_waitingCount.toInt ≤ 60 → 0 ≤ L_count.toInt → L_count.toInt ≤ 60 → R_at.toInt < 60 → kCv l yX2_readInner (Cond.code yX2_readInner cX2_readInner 2 none :: wsL_law) ({ frames := F, cells := 0, slots := 0, locals := Q }) G [(cW, .int), (cS, .int), (cP, .int)] [.ref aR, .int p1] [(aR, .inr (2, [.ref aW, .int R_waitingCount, .ref aT, .ref aL, .int R_at])), (aW, .inl (cW, 60, .inl fW)), (aT, .inr (5, [.ref aS, .int T_length])), (aS, .inl (cS, 60, .inl fS)), (aL, .inr (1, [.ref aP, .int L_count, .int L_fault, .ref rL_values, .int L_top])), (aP, .inl (cP, 60, .inl fP))] (fun (u : Int32 × Int32 × (Nat → Int32) × Int32 × Int32 × (Nat → Int32)) => u = inn R_waitingCount R_at fW L_count L_fault fP ∧ (0 ≤ u.2.1.toInt) ∧ (u.2.1.toInt ≤ 60) ∧ (0 ≤ u.1.toInt) ∧ (u.1.toInt ≤ 60) ∧ (0 ≤ u.2.2.2.1.toInt) ∧ (u.2.2.2.1.toInt ≤ 60)) (fun (u : Int32 × Int32 × (Nat → Int32) × Int32 × Int32 × (Nat → Int32)) => [(aR, .inr (2, [.ref aW, .int u.1, .ref aT, .ref aL, .int u.2.1])), (aW, .inl (cW, 60, .inl u.2.2.1)), (aT, .inr (5, [.ref aS, .int T_length])), (aS, .inl (cS, 60, .inl fS)), (aL, .inr (1, [.ref aP, .int u.2.2.2.1, .int u.2.2.2.2.1, .ref rL_values, .int L_top])), (aP, .inl (cP, 60, .inl u.2.2.2.2.2))])
theorem hd_X1_addSign : yX1_addSign.cls = RX1 ∧ yX1_addSign.cls ≠ "java/lang/invoke/MethodHandle" ∧ yX1_addSign.cls ≠ "java/lang/invoke/VarHandle" ∧ (parseMethodDescriptor yX1_addSign.desc).map (fun d => d.parameters.length) = some 1 := by decide +kernel
theorem hd_X2_isLetter : yX2_isLetter.cls ≠ "java/lang/invoke/MethodHandle" ∧ yX2_isLetter.cls ≠ "java/lang/invoke/VarHandle" ∧ (parseMethodDescriptor yX2_isLetter.desc).map (fun d => d.parameters.length) = some 1 := by decide +kernel
theorem hd_X2_readInner : yX2_readInner.cls = RX2 ∧ yX2_readInner.cls ≠ "java/lang/invoke/MethodHandle" ∧ yX2_readInner.cls ≠ "java/lang/invoke/VarHandle" ∧ (parseMethodDescriptor yX2_readInner.desc).map (fun d => d.parameters.length) = some 1 := by decide +kernel
theorem hd_X2_readNumber : yX2_readNumber.cls = RX2 ∧ yX2_readNumber.cls ≠ "java/lang/invoke/MethodHandle" ∧ yX2_readNumber.cls ≠ "java/lang/invoke/VarHandle" ∧ (parseMethodDescriptor yX2_readNumber.desc).map (fun d => d.parameters.length) = some 0 := by decide +kernel
def fX2_readCore (inn : Int32 → Int32 → (Nat → Int32) → Int32 → Int32 → (Nat → Int32) → Int32 × Int32 × (Nat → Int32) × Int32 × Int32 × (Nat → Int32)) (R_waitingCount : Int32) (R_at : Int32) (fW : Nat → Int32) (T_length : Int32) (fS : Nat → Int32) (L_count : Int32) (L_fault : Int32) (fP : Nat → Int32) : Int32 × Int32 × (Nat → Int32) × Int32 × Int32 × (Nat → Int32) :=
  let r_2 : Int32 := (fX2_nextSign R_at T_length fS L_fault).1
  let u_1 : Int32 := (fX2_nextSign R_at T_length fS L_fault).2
  let r_5 : Int32 := fX2_isDigit r_2
  if r_5 = 0 then (
    let r_9 : Int32 := fX2_isLetter r_2
    if r_9 = 0 then (
      if r_2 = 40 then (
        let u_16 : Int32 × Int32 × (Nat → Int32) × Int32 × Int32 × (Nat → Int32) := inn R_waitingCount u_1 fW L_count L_fault fP
        (u_16.1, u_16.2.1, u_16.2.2.1, u_16.2.2.2.1, u_16.2.2.2.2.1, u_16.2.2.2.2.2))
      else (
        let u_13 : Int32 := fX2_refuse u_1 1 L_fault
        (R_waitingCount, u_1, fW, L_count, u_13, fP)))
    else (
      let at_19 : Int32 := u_1 + 1
      let u_20 : Int32 × (Nat → Int32) := fX1_addSign r_2 L_count fP
      (R_waitingCount, at_19, fW, u_20.1, L_fault, u_20.2)))
  else (
    let u_23 : Int32 × Int32 × Int32 × (Nat → Int32) := fX2_readNumber u_1 T_length fS L_count L_fault fP
    (R_waitingCount, u_23.1, fW, u_23.2.1, u_23.2.2.1, u_23.2.2.2))

set_option maxHeartbeats 4000000 in
set_option maxRecDepth 100000 in
theorem c_X2_readCore (l : Launch) (G : va_G) (aR aW aT aS aL aP rL_values : Nat) (cW cS cP : ClassId) (F Q : Nat) (p1 : Int32) (R_waitingCount : Int32) (R_at : Int32) (fW : Nat → Int32) (T_length : Int32) (fS : Nat → Int32) (L_count : Int32) (L_fault : Int32) (L_top : Int32) (fP : Nat → Int32) (inn : Int32 → Int32 → (Nat → Int32) → Int32 → Int32 → (Nat → Int32) → Int32 × Int32 × (Nat → Int32) × Int32 × Int32 × (Nat → Int32)) (q0 : 0 ≤ R_at.toInt) (q1 : R_at.toInt ≤ 60) (n1 : T_length.toInt ≤ 60) (w0 : 0 ≤ R_waitingCount.toInt) (w1 : R_waitingCount.toInt ≤ 60) (k0 : 0 ≤ L_count.toInt) (k1 : L_count.toInt ≤ 60) (hI : hy_inner l G aR aW aT aS aL aP rL_values cW cS cP F Q p1 T_length fS inn) : kCv l yX2_readCore (Cond.code yX2_readCore cX2_readCore 3 none :: wsL_law) ({ frames := F + 3, cells := 0, slots := 0, locals := Q + 65 }) G [(cW, .int), (cS, .int), (cP, .int)] [.ref aR, .int p1] [(aR, .inr (2, [.ref aW, .int R_waitingCount, .ref aT, .ref aL, .int R_at])), (aW, .inl (cW, 60, .inl fW)), (aT, .inr (5, [.ref aS, .int T_length])), (aS, .inl (cS, 60, .inl fS)), (aL, .inr (1, [.ref aP, .int L_count, .int L_fault, .ref rL_values, .int L_top])), (aP, .inl (cP, 60, .inl fP))] (fun (u : Int32 × Int32 × (Nat → Int32) × Int32 × Int32 × (Nat → Int32)) => u = fX2_readCore inn R_waitingCount R_at fW T_length fS L_count L_fault fP ∧ (0 ≤ u.2.1.toInt) ∧ (u.2.1.toInt ≤ 60) ∧ (0 ≤ u.1.toInt) ∧ (u.1.toInt ≤ 60) ∧ (0 ≤ u.2.2.2.1.toInt) ∧ (u.2.2.2.1.toInt ≤ 60)) (fun (u : Int32 × Int32 × (Nat → Int32) × Int32 × Int32 × (Nat → Int32)) => [(aR, .inr (2, [.ref aW, .int u.1, .ref aT, .ref aL, .int u.2.1])), (aW, .inl (cW, 60, .inl u.2.2.1)), (aT, .inr (5, [.ref aS, .int T_length])), (aS, .inl (cS, 60, .inl fS)), (aL, .inr (1, [.ref aP, .int u.2.2.2.1, .int u.2.2.2.2.1, .ref rL_values, .int L_top])), (aP, .inl (cP, 60, .inl u.2.2.2.2.2))]) := by
  intro sz
  refine Met.ofW (cc := cX2_readCore) (maxL := 3) (ret := none) (by decide) rfl ?_
  intro p e s m args below meth c s₁ B hml hv
  obtain ⟨rfl, hv⟩ := hv
  obtain ⟨rfl, hK, hq, hA⟩ := kk_begin hv
  have hx := B.exec
  have hb := B.bytes
  have hr := B.returns
  have hts := atoms_spec (ws := (Cond.code yX2_readCore cX2_readCore 3 none :: wsL_law)) B.pre
  have hown : s.vm.findClass RX2 = some m.cls := findClass_of_methodNamed B.named
  have hlocks := B.notSynchronized
  have hsb : ∀ w ∈ wsL_law, w ∈ (Cond.code yX2_readCore cX2_readCore 3 none :: wsL_law) := fun _ h => List.mem_cons_of_mem _ h
  generalize va_A [(aR, .inr (2, [.ref aW, .int R_waitingCount, .ref aT, .ref aL, .int R_at])), (aW, .inl (cW, 60, .inl fW)), (aT, .inr (5, [.ref aS, .int T_length])), (aS, .inl (cS, 60, .inl fS)), (aL, .inr (1, [.ref aP, .int L_count, .int L_fault, .ref rL_values, .int L_top])), (aP, .inl (cP, 60, .inl fP))] s.heap.size = A at hq hA ⊢
  have iX2 : ∀ w ∈ u_ws RX2 TX2 5, w ∈ (Cond.code yX2_readCore cX2_readCore 3 none :: wsL_law) := fun w h => hsb w (bin_X2 w h)
  have lk0_ := hts _ (hsb _ wd_110)
  have lk1_ := hts _ (hsb _ wd_112)
  have hl := lv_entry ([.ref aR, .int p1]) (n := 3) (Nat.le_of_ble_eq_true rfl)
  rw [lg_entry_eq]
  generalize (lg_sl ([.ref aR, .int p1]) ++ List.replicate (3 - (lg_sl ([.ref aR, .int p1])).length) Slot.unset).toArray = ls at hl ⊢
  have hl : lv_has ls 3 [(0, .ref aR), (1, .int p1)] := hl
  refine lv_aload_n hx hb dX2_readCore_0 rfl (lv_at hl 0 rfl) ?_
  refine kk_Vi (As := []) (rest := []) (wr := [(aW, .inl (cW, 60, .inl fW)), (aP, .inl (cP, 60, .inl fP))]) ⟨hx, hb, hml, hown, hts⟩ (c_X2_nextSign l G aR aT aS aL aW aP rL_values cS R_waitingCount R_at T_length fS L_count L_fault L_top (by assumption) (by assumption) (by assumption)) (kk_cwV 0 hts hsb wd_195 wd_196 wd_197 wd_25 wd_198 rfl rfl hd_X2_nextSign ⟨by dsimp only [headSpec]; omega, by dsimp only [headSpec]; omega⟩) hA hK hq [0, 2, 3, 4] [1, 5] [1] rfl rfl rfl (by decide) (by decide) (by decide) 0 2 rfl rfl rfl rfl hl.1 rfl (Nat.le_of_ble_eq_true rfl) dX2_readCore_1 ⟨Nat.zero_le _, Nat.zero_le _⟩ (fun r_2 u_1 H locs h_3 hq => ?_)
  obtain ⟨er_2, eu_1, q0_u_1, q1_u_1, nx_u_1⟩ := h_3
  have hq : kAt G A s [(aW, .inl (cW, 60, .inl fW)), (aP, .inl (cP, 60, .inl fP)), (aR, .inr (2, [.ref aW, .int R_waitingCount, .ref aT, .ref aL, .int u_1])), (aT, .inr (5, [.ref aS, .int T_length])), (aS, .inl (cS, 60, .inl fS)), (aL, .inr (1, [.ref aP, .int L_count, .int L_fault, .ref rL_values, .int L_top]))] H locs := hq
  have nxh := nx_u_1
  refine lv_istore_n (lv' := [(2, .int r_2), (0, .ref aR), (1, .int p1)]) hx hb dX2_readCore_4 rfl hl (by decide) rfl (fun ls hl => ?_)
  refine lv_iload_n hx hb dX2_readCore_5 rfl (lv_at hl 0 rfl) ?_
  refine kk_Si (As := [.int r_2]) (rest := []) (wr := [(aW, .inl (cW, 60, .inl fW)), (aP, .inl (cP, 60, .inl fP)), (aR, .inr (2, [.ref aW, .int R_waitingCount, .ref aT, .ref aL, .int u_1])), (aT, .inr (5, [.ref aS, .int T_length])), (aS, .inl (cS, 60, .inl fS)), (aL, .inr (1, [.ref aP, .int L_count, .int L_fault, .ref rL_values, .int L_top]))]) ⟨hx, hb, hml, hown, hts⟩ (c_X2_isDigit l G r_2) (kk_cwS 1 hts hsb wd_218 wd_219 wd_25 wd_220 rfl rfl hd_X2_isDigit ⟨by dsimp only [headSpec]; omega, by dsimp only [headSpec]; omega⟩) hA hK hq [] [0, 1, 2, 3, 4, 5] [] rfl rfl rfl (by decide) (by decide) (by decide) rfl hl.1 rfl (Nat.le_of_ble_eq_true rfl) dX2_readCore_6 ⟨Nat.zero_le _, Nat.zero_le _⟩ (fun r_5 u_4 H locs h_6 hq => ?_)
  obtain ⟨er_5, zr_5⟩ := h_6
  have hq : kAt G A s [(aW, .inl (cW, 60, .inl fW)), (aP, .inl (cP, 60, .inl fP)), (aR, .inr (2, [.ref aW, .int R_waitingCount, .ref aT, .ref aL, .int u_1])), (aT, .inr (5, [.ref aS, .int T_length])), (aS, .inl (cS, 60, .inl fS)), (aL, .inr (1, [.ref aP, .int L_count, .int L_fault, .ref rL_values, .int L_top]))] H locs := hq
  refine lv_if_eq (tgt := 19) hx hb dX2_readCore_9 (by decide) (fun c_7 => ?_) (fun c_7 => ?_)
  · skip
    refine lv_iload_n hx hb dX2_readCore_19 rfl (lv_at hl 0 rfl) ?_
    refine kk_Si (As := [.int r_2]) (rest := []) (wr := [(aW, .inl (cW, 60, .inl fW)), (aP, .inl (cP, 60, .inl fP)), (aR, .inr (2, [.ref aW, .int R_waitingCount, .ref aT, .ref aL, .int u_1])), (aT, .inr (5, [.ref aS, .int T_length])), (aS, .inl (cS, 60, .inl fS)), (aL, .inr (1, [.ref aP, .int L_count, .int L_fault, .ref rL_values, .int L_top]))]) ⟨hx, hb, hml, hown, hts⟩ (c_X2_isLetter l G r_2) (kk_cwS 1 hts hsb wd_233 wd_234 wd_25 wd_235 rfl rfl hd_X2_isLetter ⟨by dsimp only [headSpec]; omega, by dsimp only [headSpec]; omega⟩) hA hK hq [] [0, 1, 2, 3, 4, 5] [] rfl rfl rfl (by decide) (by decide) (by decide) rfl hl.1 rfl (Nat.le_of_ble_eq_true rfl) dX2_readCore_20 ⟨Nat.zero_le _, Nat.zero_le _⟩ (fun r_9 u_8 H locs h_10 hq => ?_)
    obtain ⟨er_9, zr_9⟩ := h_10
    have hq : kAt G A s [(aW, .inl (cW, 60, .inl fW)), (aP, .inl (cP, 60, .inl fP)), (aR, .inr (2, [.ref aW, .int R_waitingCount, .ref aT, .ref aL, .int u_1])), (aT, .inr (5, [.ref aS, .int T_length])), (aS, .inl (cS, 60, .inl fS)), (aL, .inr (1, [.ref aP, .int L_count, .int L_fault, .ref rL_values, .int L_top]))] H locs := hq
    refine lv_if_eq (tgt := 47) hx hb dX2_readCore_23 (by decide) (fun c_11 => ?_) (fun c_11 => ?_)
    · skip
      refine lv_iload_n hx hb dX2_readCore_47 rfl (lv_at hl 0 rfl) ?_
      refine lv_bipush (v := 40) hx hb dX2_readCore_48 (by decide) ?_
      refine lv_icmp_ne (tgt := 61) hx hb dX2_readCore_50 (by decide) (fun c_12 => ?_) (fun c_12 => ?_)
      · skip
        refine lv_aload_n hx hb dX2_readCore_61 rfl (lv_at hl 1 rfl) ?_
        refine lv_aload_n hx hb dX2_readCore_62 rfl (lv_at hl 1 rfl) ?_
        refine kk_get (ci := 2) (v := .int u_1) (C := RX2) (T := TX2) (N := 5) hx hb hts iX2 hown hK hq 2 rfl rfl 4 (by decide) lk0_ rfl dX2_readCore_63 ?_
        refine lv_iconst (v := 1) hx hb dX2_readCore_66 (by decide) ?_
        refine kk_Vv (As := [.int u_1, .int 1]) (rest := []) (wr := [(aW, .inl (cW, 60, .inl fW)), (aP, .inl (cP, 60, .inl fP)), (aT, .inr (5, [.ref aS, .int T_length])), (aS, .inl (cS, 60, .inl fS))]) ⟨hx, hb, hml, hown, hts⟩ (c_X2_refuse l G aR aL aW aT aP rL_values u_1 1 R_waitingCount u_1 L_count L_fault L_top) (kk_cwV 2 hts hsb wd_225 wd_226 wd_227 wd_25 wd_228 rfl rfl hd_X2_refuse ⟨by dsimp only [headSpec]; omega, by dsimp only [headSpec]; omega⟩) hA hK hq [2, 5] [0, 1, 3, 4] [] rfl rfl rfl (by decide) (by decide) (by decide) 0 2 rfl rfl rfl rfl hl.1 rfl (Nat.le_of_ble_eq_true rfl) dX2_readCore_67 ⟨Nat.zero_le _, Nat.zero_le _⟩ (fun u_13 H locs h_15 hq => ?_)
        have eu_13 := h_15
        have hq : kAt G A s [(aW, .inl (cW, 60, .inl fW)), (aP, .inl (cP, 60, .inl fP)), (aT, .inr (5, [.ref aS, .int T_length])), (aS, .inl (cS, 60, .inl fS)), (aR, .inr (2, [.ref aW, .int R_waitingCount, .ref aT, .ref aL, .int u_1])), (aL, .inr (1, [.ref aP, .int L_count, .int u_13, .ref rL_values, .int L_top]))] H locs := hq
        have hf : ((R_waitingCount, u_1, fW, L_count, u_13, fP) : Int32 × Int32 × (Nat → Int32) × Int32 × Int32 × (Nat → Int32)) = fX2_readCore inn R_waitingCount R_at fW T_length fS L_count L_fault fP := by
          exact ((congrArg (fun (r_2 : Int32) => ((let u_1 : Int32 := (fX2_nextSign R_at T_length fS L_fault).2
  let r_5 : Int32 := fX2_isDigit r_2
  if r_5 = 0 then (
    let r_9 : Int32 := fX2_isLetter r_2
    if r_9 = 0 then (
      if r_2 = 40 then (
        let u_16 : Int32 × Int32 × (Nat → Int32) × Int32 × Int32 × (Nat → Int32) := inn R_waitingCount u_1 fW L_count L_fault fP
        (u_16.1, u_16.2.1, u_16.2.2.1, u_16.2.2.2.1, u_16.2.2.2.2.1, u_16.2.2.2.2.2))
      else (
        let u_13 : Int32 := fX2_refuse u_1 1 L_fault
        (R_waitingCount, u_1, fW, L_count, u_13, fP)))
    else (
      let at_19 : Int32 := u_1 + 1
      let u_20 : Int32 × (Nat → Int32) := fX1_addSign r_2 L_count fP
      (R_waitingCount, at_19, fW, u_20.1, L_fault, u_20.2)))
  else (
    let u_23 : Int32 × Int32 × Int32 × (Nat → Int32) := fX2_readNumber u_1 T_length fS L_count L_fault fP
    (R_waitingCount, u_23.1, fW, u_23.2.1, u_23.2.2.1, u_23.2.2.2))) : Int32 × Int32 × (Nat → Int32) × Int32 × Int32 × (Nat → Int32))) er_2.symm).trans ((congrArg (fun (u_1 : Int32) => ((let r_5 : Int32 := fX2_isDigit r_2
  if r_5 = 0 then (
    let r_9 : Int32 := fX2_isLetter r_2
    if r_9 = 0 then (
      if r_2 = 40 then (
        let u_16 : Int32 × Int32 × (Nat → Int32) × Int32 × Int32 × (Nat → Int32) := inn R_waitingCount u_1 fW L_count L_fault fP
        (u_16.1, u_16.2.1, u_16.2.2.1, u_16.2.2.2.1, u_16.2.2.2.2.1, u_16.2.2.2.2.2))
      else (
        let u_13 : Int32 := fX2_refuse u_1 1 L_fault
        (R_waitingCount, u_1, fW, L_count, u_13, fP)))
    else (
      let at_19 : Int32 := u_1 + 1
      let u_20 : Int32 × (Nat → Int32) := fX1_addSign r_2 L_count fP
      (R_waitingCount, at_19, fW, u_20.1, L_fault, u_20.2)))
  else (
    let u_23 : Int32 × Int32 × Int32 × (Nat → Int32) := fX2_readNumber u_1 T_length fS L_count L_fault fP
    (R_waitingCount, u_23.1, fW, u_23.2.1, u_23.2.2.1, u_23.2.2.2))) : Int32 × Int32 × (Nat → Int32) × Int32 × Int32 × (Nat → Int32))) eu_1.symm).trans ((congrArg (fun (r_5 : Int32) => ((if r_5 = 0 then (
    let r_9 : Int32 := fX2_isLetter r_2
    if r_9 = 0 then (
      if r_2 = 40 then (
        let u_16 : Int32 × Int32 × (Nat → Int32) × Int32 × Int32 × (Nat → Int32) := inn R_waitingCount u_1 fW L_count L_fault fP
        (u_16.1, u_16.2.1, u_16.2.2.1, u_16.2.2.2.1, u_16.2.2.2.2.1, u_16.2.2.2.2.2))
      else (
        let u_13 : Int32 := fX2_refuse u_1 1 L_fault
        (R_waitingCount, u_1, fW, L_count, u_13, fP)))
    else (
      let at_19 : Int32 := u_1 + 1
      let u_20 : Int32 × (Nat → Int32) := fX1_addSign r_2 L_count fP
      (R_waitingCount, at_19, fW, u_20.1, L_fault, u_20.2)))
  else (
    let u_23 : Int32 × Int32 × Int32 × (Nat → Int32) := fX2_readNumber u_1 T_length fS L_count L_fault fP
    (R_waitingCount, u_23.1, fW, u_23.2.1, u_23.2.2.1, u_23.2.2.2))) : Int32 × Int32 × (Nat → Int32) × Int32 × Int32 × (Nat → Int32))) er_5.symm).trans ((if_pos c_7).trans ((congrArg (fun (r_9 : Int32) => ((if r_9 = 0 then (
    if r_2 = 40 then (
      let u_16 : Int32 × Int32 × (Nat → Int32) × Int32 × Int32 × (Nat → Int32) := inn R_waitingCount u_1 fW L_count L_fault fP
      (u_16.1, u_16.2.1, u_16.2.2.1, u_16.2.2.2.1, u_16.2.2.2.2.1, u_16.2.2.2.2.2))
    else (
      let u_13 : Int32 := fX2_refuse u_1 1 L_fault
      (R_waitingCount, u_1, fW, L_count, u_13, fP)))
  else (
    let at_19 : Int32 := u_1 + 1
    let u_20 : Int32 × (Nat → Int32) := fX1_addSign r_2 L_count fP
    (R_waitingCount, at_19, fW, u_20.1, L_fault, u_20.2))) : Int32 × Int32 × (Nat → Int32) × Int32 × Int32 × (Nat → Int32))) er_9.symm).trans ((if_pos c_11).trans ((if_neg c_12).trans ((congrArg (fun (u_13 : Int32) => (((R_waitingCount, u_1, fW, L_count, u_13, fP)) : Int32 × Int32 × (Nat → Int32) × Int32 × Int32 × (Nat → Int32))) eu_13.symm))))))))).symm
        have en_0 : 0 ≤ u_1.toInt := by first | assumption | omega
        have en_1 : u_1.toInt ≤ 60 := by first | assumption | omega
        have en_2 : 0 ≤ R_waitingCount.toInt := by first | assumption | omega
        have en_3 : R_waitingCount.toInt ≤ 60 := by first | assumption | omega
        have en_4 : 0 ≤ L_count.toInt := by first | assumption | omega
        have en_5 : L_count.toInt ≤ 60 := by first | assumption | omega
        exact kk_ev hx hb hr hlocks hK hq [4, 0, 2, 3, 5, 1] (R_waitingCount, u_1, fW, L_count, u_13, fP) rfl (by decide) dX2_readCore_70 ⟨hf, en_0, en_1, en_2, en_3, en_4, en_5⟩
      · skip
        have hlt := nx_use nxh c_12 (by decide)
        refine lv_aload_n hx hb dX2_readCore_53 rfl (lv_at hl 1 rfl) ?_
        refine lv_iload_n hx hb dX2_readCore_54 rfl (lv_at hl 2 rfl) ?_
        refine kk_Vv (As := [.int p1]) (rest := []) (wr := []) ⟨hx, hb, hml, hown, hts⟩ (hI R_waitingCount u_1 fW L_count L_fault L_top fP (by assumption) (by assumption) (by assumption) (by assumption) (by assumption) (by assumption) (by assumption)) (kk_cwV 1 hts hsb wd_236 wd_237 wd_238 wd_25 wd_243 rfl rfl hd_X2_readInner ⟨by dsimp only [headSpec]; omega, by dsimp only [headSpec]; omega⟩) hA hK hq [2, 0, 3, 4, 5, 1] [] [0, 1, 2] rfl rfl rfl (by decide) (by decide) (by decide) 0 2 rfl rfl rfl rfl hl.1 rfl (Nat.le_of_ble_eq_true rfl) dX2_readCore_55 ⟨Nat.zero_le _, Nat.zero_le _⟩ (fun u_16 H locs h_18 hq => ?_)
        obtain ⟨eu_16, q0_u_16, q1_u_16, w0_u_16, w1_u_16, k0_u_16, k1_u_16⟩ := h_18
        have hq : kAt G A s [(aR, .inr (2, [.ref aW, .int u_16.1, .ref aT, .ref aL, .int u_16.2.1])), (aW, .inl (cW, 60, .inl u_16.2.2.1)), (aT, .inr (5, [.ref aS, .int T_length])), (aS, .inl (cS, 60, .inl fS)), (aL, .inr (1, [.ref aP, .int u_16.2.2.2.1, .int u_16.2.2.2.2.1, .ref rL_values, .int L_top])), (aP, .inl (cP, 60, .inl u_16.2.2.2.2.2))] H locs := hq
        refine lv_goto (tgt := 70) hx hb dX2_readCore_58 (by decide) ?_
        have hf : ((u_16.1, u_16.2.1, u_16.2.2.1, u_16.2.2.2.1, u_16.2.2.2.2.1, u_16.2.2.2.2.2) : Int32 × Int32 × (Nat → Int32) × Int32 × Int32 × (Nat → Int32)) = fX2_readCore inn R_waitingCount R_at fW T_length fS L_count L_fault fP := by
          exact ((congrArg (fun (r_2 : Int32) => ((let u_1 : Int32 := (fX2_nextSign R_at T_length fS L_fault).2
  let r_5 : Int32 := fX2_isDigit r_2
  if r_5 = 0 then (
    let r_9 : Int32 := fX2_isLetter r_2
    if r_9 = 0 then (
      if r_2 = 40 then (
        let u_16 : Int32 × Int32 × (Nat → Int32) × Int32 × Int32 × (Nat → Int32) := inn R_waitingCount u_1 fW L_count L_fault fP
        (u_16.1, u_16.2.1, u_16.2.2.1, u_16.2.2.2.1, u_16.2.2.2.2.1, u_16.2.2.2.2.2))
      else (
        let u_13 : Int32 := fX2_refuse u_1 1 L_fault
        (R_waitingCount, u_1, fW, L_count, u_13, fP)))
    else (
      let at_19 : Int32 := u_1 + 1
      let u_20 : Int32 × (Nat → Int32) := fX1_addSign r_2 L_count fP
      (R_waitingCount, at_19, fW, u_20.1, L_fault, u_20.2)))
  else (
    let u_23 : Int32 × Int32 × Int32 × (Nat → Int32) := fX2_readNumber u_1 T_length fS L_count L_fault fP
    (R_waitingCount, u_23.1, fW, u_23.2.1, u_23.2.2.1, u_23.2.2.2))) : Int32 × Int32 × (Nat → Int32) × Int32 × Int32 × (Nat → Int32))) er_2.symm).trans ((congrArg (fun (u_1 : Int32) => ((let r_5 : Int32 := fX2_isDigit r_2
  if r_5 = 0 then (
    let r_9 : Int32 := fX2_isLetter r_2
    if r_9 = 0 then (
      if r_2 = 40 then (
        let u_16 : Int32 × Int32 × (Nat → Int32) × Int32 × Int32 × (Nat → Int32) := inn R_waitingCount u_1 fW L_count L_fault fP
        (u_16.1, u_16.2.1, u_16.2.2.1, u_16.2.2.2.1, u_16.2.2.2.2.1, u_16.2.2.2.2.2))
      else (
        let u_13 : Int32 := fX2_refuse u_1 1 L_fault
        (R_waitingCount, u_1, fW, L_count, u_13, fP)))
    else (
      let at_19 : Int32 := u_1 + 1
      let u_20 : Int32 × (Nat → Int32) := fX1_addSign r_2 L_count fP
      (R_waitingCount, at_19, fW, u_20.1, L_fault, u_20.2)))
  else (
    let u_23 : Int32 × Int32 × Int32 × (Nat → Int32) := fX2_readNumber u_1 T_length fS L_count L_fault fP
    (R_waitingCount, u_23.1, fW, u_23.2.1, u_23.2.2.1, u_23.2.2.2))) : Int32 × Int32 × (Nat → Int32) × Int32 × Int32 × (Nat → Int32))) eu_1.symm).trans ((congrArg (fun (r_5 : Int32) => ((if r_5 = 0 then (
    let r_9 : Int32 := fX2_isLetter r_2
    if r_9 = 0 then (
      if r_2 = 40 then (
        let u_16 : Int32 × Int32 × (Nat → Int32) × Int32 × Int32 × (Nat → Int32) := inn R_waitingCount u_1 fW L_count L_fault fP
        (u_16.1, u_16.2.1, u_16.2.2.1, u_16.2.2.2.1, u_16.2.2.2.2.1, u_16.2.2.2.2.2))
      else (
        let u_13 : Int32 := fX2_refuse u_1 1 L_fault
        (R_waitingCount, u_1, fW, L_count, u_13, fP)))
    else (
      let at_19 : Int32 := u_1 + 1
      let u_20 : Int32 × (Nat → Int32) := fX1_addSign r_2 L_count fP
      (R_waitingCount, at_19, fW, u_20.1, L_fault, u_20.2)))
  else (
    let u_23 : Int32 × Int32 × Int32 × (Nat → Int32) := fX2_readNumber u_1 T_length fS L_count L_fault fP
    (R_waitingCount, u_23.1, fW, u_23.2.1, u_23.2.2.1, u_23.2.2.2))) : Int32 × Int32 × (Nat → Int32) × Int32 × Int32 × (Nat → Int32))) er_5.symm).trans ((if_pos c_7).trans ((congrArg (fun (r_9 : Int32) => ((if r_9 = 0 then (
    if r_2 = 40 then (
      let u_16 : Int32 × Int32 × (Nat → Int32) × Int32 × Int32 × (Nat → Int32) := inn R_waitingCount u_1 fW L_count L_fault fP
      (u_16.1, u_16.2.1, u_16.2.2.1, u_16.2.2.2.1, u_16.2.2.2.2.1, u_16.2.2.2.2.2))
    else (
      let u_13 : Int32 := fX2_refuse u_1 1 L_fault
      (R_waitingCount, u_1, fW, L_count, u_13, fP)))
  else (
    let at_19 : Int32 := u_1 + 1
    let u_20 : Int32 × (Nat → Int32) := fX1_addSign r_2 L_count fP
    (R_waitingCount, at_19, fW, u_20.1, L_fault, u_20.2))) : Int32 × Int32 × (Nat → Int32) × Int32 × Int32 × (Nat → Int32))) er_9.symm).trans ((if_pos c_11).trans ((if_pos c_12).trans ((congrArg (fun (u_16 : Int32 × Int32 × (Nat → Int32) × Int32 × Int32 × (Nat → Int32)) => (((u_16.1, u_16.2.1, u_16.2.2.1, u_16.2.2.2.1, u_16.2.2.2.2.1, u_16.2.2.2.2.2)) : Int32 × Int32 × (Nat → Int32) × Int32 × Int32 × (Nat → Int32))) eu_16.symm))))))))).symm
        have en_0 : 0 ≤ u_16.2.1.toInt := by first | assumption | omega
        have en_1 : u_16.2.1.toInt ≤ 60 := by first | assumption | omega
        have en_2 : 0 ≤ u_16.1.toInt := by first | assumption | omega
        have en_3 : u_16.1.toInt ≤ 60 := by first | assumption | omega
        have en_4 : 0 ≤ u_16.2.2.2.1.toInt := by first | assumption | omega
        have en_5 : u_16.2.2.2.1.toInt ≤ 60 := by first | assumption | omega
        exact kk_ev hx hb hr hlocks hK hq [0, 1, 2, 3, 4, 5] (u_16.1, u_16.2.1, u_16.2.2.1, u_16.2.2.2.1, u_16.2.2.2.2.1, u_16.2.2.2.2.2) rfl (by decide) dX2_readCore_70 ⟨hf, en_0, en_1, en_2, en_3, en_4, en_5⟩
    · skip
      have hlt := nx_ne nxh (let_ne (by have h := c_11; subst_vars; exact h))
      refine lv_aload_n hx hb dX2_readCore_26 rfl (lv_at hl 1 rfl) ?_
      refine lv_dup hx hb dX2_readCore_27 rfl ?_
      refine kk_get (ci := 2) (v := .int u_1) (C := RX2) (T := TX2) (N := 5) hx hb hts iX2 hown hK hq 2 rfl rfl 4 (by decide) lk0_ rfl dX2_readCore_28 ?_
      refine lv_iconst (v := 1) hx hb dX2_readCore_31 (by decide) ?_
      refine lv_iadd hx hb dX2_readCore_32 ?_
      refine lv_topi (fun at_19 eat_19 => ?_)
      refine kk_put (ws' := [(aW, .inl (cW, 60, .inl fW)), (aP, .inl (cP, 60, .inl fP)), (aR, .inr (2, [.ref aW, .int R_waitingCount, .ref aT, .ref aL, .int at_19])), (aT, .inr (5, [.ref aS, .int T_length])), (aS, .inl (cS, 60, .inl fS)), (aL, .inr (1, [.ref aP, .int L_count, .int L_fault, .ref rL_values, .int L_top]))]) (ci := 2) (v := .int at_19) (C := RX2) (T := TX2) (N := 5) hx hb hts iX2 tyX2_ok nmX2 hown hK hq 2 rfl rfl 4 (by decide) lk0_ rfl rfl rfl (Nat.le_of_ble_eq_true rfl) dX2_readCore_33 rfl (fun H locs hq => ?_)
      have hat_19 := at_inc eat_19 (by assumption) hlt
      have q0at_19 : 0 ≤ at_19.toInt := hat_19.1
      have q1at_19 : at_19.toInt ≤ 60 := hat_19.2
      refine lv_aload_n hx hb dX2_readCore_36 rfl (lv_at hl 1 rfl) ?_
      refine kk_get (ci := 2) (v := .ref aL) (C := RX2) (T := TX2) (N := 5) hx hb hts iX2 hown hK hq 2 rfl rfl 3 (by decide) lk1_ rfl dX2_readCore_37 ?_
      refine lv_iload_n hx hb dX2_readCore_40 rfl (lv_at hl 0 rfl) ?_
      refine kk_Vv (As := [.int r_2]) (rest := []) (wr := [(aW, .inl (cW, 60, .inl fW)), (aR, .inr (2, [.ref aW, .int R_waitingCount, .ref aT, .ref aL, .int at_19])), (aT, .inr (5, [.ref aS, .int T_length])), (aS, .inl (cS, 60, .inl fS))]) ⟨hx, hb, hml, hown, hts⟩ (c_X1_addSign l G aL aP rL_values cP r_2 L_count L_fault L_top fP (by assumption) (by assumption)) (kk_cwV 1 hts hsb wd_205 wd_206 wd_207 wd_21 wd_208 rfl rfl hd_X1_addSign ⟨by dsimp only [headSpec]; omega, by dsimp only [headSpec]; omega⟩) hA hK hq [5, 1] [0, 2, 3, 4] [2] rfl rfl rfl (by decide) (by decide) (by decide) 0 1 rfl rfl rfl rfl hl.1 rfl (Nat.le_of_ble_eq_true rfl) dX2_readCore_41 ⟨Nat.zero_le _, Nat.zero_le _⟩ (fun u_20 H locs h_22 hq => ?_)
      obtain ⟨eu_20, k0_u_20, k1_u_20⟩ := h_22
      have hq : kAt G A s [(aW, .inl (cW, 60, .inl fW)), (aR, .inr (2, [.ref aW, .int R_waitingCount, .ref aT, .ref aL, .int at_19])), (aT, .inr (5, [.ref aS, .int T_length])), (aS, .inl (cS, 60, .inl fS)), (aL, .inr (1, [.ref aP, .int u_20.1, .int L_fault, .ref rL_values, .int L_top])), (aP, .inl (cP, 60, .inl u_20.2))] H locs := hq
      refine lv_goto (tgt := 70) hx hb dX2_readCore_44 (by decide) ?_
      have hf : ((R_waitingCount, at_19, fW, u_20.1, L_fault, u_20.2) : Int32 × Int32 × (Nat → Int32) × Int32 × Int32 × (Nat → Int32)) = fX2_readCore inn R_waitingCount R_at fW T_length fS L_count L_fault fP := by
        exact ((congrArg (fun (r_2 : Int32) => ((let u_1 : Int32 := (fX2_nextSign R_at T_length fS L_fault).2
  let r_5 : Int32 := fX2_isDigit r_2
  if r_5 = 0 then (
    let r_9 : Int32 := fX2_isLetter r_2
    if r_9 = 0 then (
      if r_2 = 40 then (
        let u_16 : Int32 × Int32 × (Nat → Int32) × Int32 × Int32 × (Nat → Int32) := inn R_waitingCount u_1 fW L_count L_fault fP
        (u_16.1, u_16.2.1, u_16.2.2.1, u_16.2.2.2.1, u_16.2.2.2.2.1, u_16.2.2.2.2.2))
      else (
        let u_13 : Int32 := fX2_refuse u_1 1 L_fault
        (R_waitingCount, u_1, fW, L_count, u_13, fP)))
    else (
      let at_19 : Int32 := u_1 + 1
      let u_20 : Int32 × (Nat → Int32) := fX1_addSign r_2 L_count fP
      (R_waitingCount, at_19, fW, u_20.1, L_fault, u_20.2)))
  else (
    let u_23 : Int32 × Int32 × Int32 × (Nat → Int32) := fX2_readNumber u_1 T_length fS L_count L_fault fP
    (R_waitingCount, u_23.1, fW, u_23.2.1, u_23.2.2.1, u_23.2.2.2))) : Int32 × Int32 × (Nat → Int32) × Int32 × Int32 × (Nat → Int32))) er_2.symm).trans ((congrArg (fun (u_1 : Int32) => ((let r_5 : Int32 := fX2_isDigit r_2
  if r_5 = 0 then (
    let r_9 : Int32 := fX2_isLetter r_2
    if r_9 = 0 then (
      if r_2 = 40 then (
        let u_16 : Int32 × Int32 × (Nat → Int32) × Int32 × Int32 × (Nat → Int32) := inn R_waitingCount u_1 fW L_count L_fault fP
        (u_16.1, u_16.2.1, u_16.2.2.1, u_16.2.2.2.1, u_16.2.2.2.2.1, u_16.2.2.2.2.2))
      else (
        let u_13 : Int32 := fX2_refuse u_1 1 L_fault
        (R_waitingCount, u_1, fW, L_count, u_13, fP)))
    else (
      let at_19 : Int32 := u_1 + 1
      let u_20 : Int32 × (Nat → Int32) := fX1_addSign r_2 L_count fP
      (R_waitingCount, at_19, fW, u_20.1, L_fault, u_20.2)))
  else (
    let u_23 : Int32 × Int32 × Int32 × (Nat → Int32) := fX2_readNumber u_1 T_length fS L_count L_fault fP
    (R_waitingCount, u_23.1, fW, u_23.2.1, u_23.2.2.1, u_23.2.2.2))) : Int32 × Int32 × (Nat → Int32) × Int32 × Int32 × (Nat → Int32))) eu_1.symm).trans ((congrArg (fun (r_5 : Int32) => ((if r_5 = 0 then (
    let r_9 : Int32 := fX2_isLetter r_2
    if r_9 = 0 then (
      if r_2 = 40 then (
        let u_16 : Int32 × Int32 × (Nat → Int32) × Int32 × Int32 × (Nat → Int32) := inn R_waitingCount u_1 fW L_count L_fault fP
        (u_16.1, u_16.2.1, u_16.2.2.1, u_16.2.2.2.1, u_16.2.2.2.2.1, u_16.2.2.2.2.2))
      else (
        let u_13 : Int32 := fX2_refuse u_1 1 L_fault
        (R_waitingCount, u_1, fW, L_count, u_13, fP)))
    else (
      let at_19 : Int32 := u_1 + 1
      let u_20 : Int32 × (Nat → Int32) := fX1_addSign r_2 L_count fP
      (R_waitingCount, at_19, fW, u_20.1, L_fault, u_20.2)))
  else (
    let u_23 : Int32 × Int32 × Int32 × (Nat → Int32) := fX2_readNumber u_1 T_length fS L_count L_fault fP
    (R_waitingCount, u_23.1, fW, u_23.2.1, u_23.2.2.1, u_23.2.2.2))) : Int32 × Int32 × (Nat → Int32) × Int32 × Int32 × (Nat → Int32))) er_5.symm).trans ((if_pos c_7).trans ((congrArg (fun (r_9 : Int32) => ((if r_9 = 0 then (
    if r_2 = 40 then (
      let u_16 : Int32 × Int32 × (Nat → Int32) × Int32 × Int32 × (Nat → Int32) := inn R_waitingCount u_1 fW L_count L_fault fP
      (u_16.1, u_16.2.1, u_16.2.2.1, u_16.2.2.2.1, u_16.2.2.2.2.1, u_16.2.2.2.2.2))
    else (
      let u_13 : Int32 := fX2_refuse u_1 1 L_fault
      (R_waitingCount, u_1, fW, L_count, u_13, fP)))
  else (
    let at_19 : Int32 := u_1 + 1
    let u_20 : Int32 × (Nat → Int32) := fX1_addSign r_2 L_count fP
    (R_waitingCount, at_19, fW, u_20.1, L_fault, u_20.2))) : Int32 × Int32 × (Nat → Int32) × Int32 × Int32 × (Nat → Int32))) er_9.symm).trans ((if_neg c_11).trans ((congrArg (fun (at_19 : Int32) => ((let u_20 : Int32 × (Nat → Int32) := fX1_addSign r_2 L_count fP
  (R_waitingCount, at_19, fW, u_20.1, L_fault, u_20.2)) : Int32 × Int32 × (Nat → Int32) × Int32 × Int32 × (Nat → Int32))) eat_19.symm).trans ((congrArg (fun (u_20 : Int32 × (Nat → Int32)) => (((R_waitingCount, at_19, fW, u_20.1, L_fault, u_20.2)) : Int32 × Int32 × (Nat → Int32) × Int32 × Int32 × (Nat → Int32))) eu_20.symm))))))))).symm
      have en_0 : 0 ≤ at_19.toInt := by first | assumption | omega
      have en_1 : at_19.toInt ≤ 60 := by first | assumption | omega
      have en_2 : 0 ≤ R_waitingCount.toInt := by first | assumption | omega
      have en_3 : R_waitingCount.toInt ≤ 60 := by first | assumption | omega
      have en_4 : 0 ≤ u_20.1.toInt := by first | assumption | omega
      have en_5 : u_20.1.toInt ≤ 60 := by first | assumption | omega
      exact kk_ev hx hb hr hlocks hK hq [1, 0, 2, 3, 4, 5] (R_waitingCount, at_19, fW, u_20.1, L_fault, u_20.2) rfl (by decide) dX2_readCore_70 ⟨hf, en_0, en_1, en_2, en_3, en_4, en_5⟩
  · skip
    refine lv_aload_n hx hb dX2_readCore_12 rfl (lv_at hl 1 rfl) ?_
    refine kk_Vv (As := []) (rest := []) (wr := [(aW, .inl (cW, 60, .inl fW))]) ⟨hx, hb, hml, hown, hts⟩ (c_X2_readNumber l G aR aT aS aL aP aW rL_values cS cP R_waitingCount u_1 T_length fS L_count L_fault L_top fP (by assumption) (by assumption) (by assumption) (by assumption) (by assumption)) (kk_cwV 0 hts hsb wd_221 wd_222 wd_223 wd_25 wd_224 rfl rfl hd_X2_readNumber ⟨by dsimp only [headSpec]; omega, by dsimp only [headSpec]; omega⟩) hA hK hq [2, 3, 4, 5, 1] [0] [1, 2] rfl rfl rfl (by decide) (by decide) (by decide) 0 2 rfl rfl rfl rfl hl.1 rfl (Nat.le_of_ble_eq_true rfl) dX2_readCore_13 ⟨Nat.zero_le _, Nat.zero_le _⟩ (fun u_23 H locs h_25 hq => ?_)
    obtain ⟨eu_23, q0_u_23, q1_u_23, k0_u_23, k1_u_23⟩ := h_25
    have hq : kAt G A s [(aW, .inl (cW, 60, .inl fW)), (aR, .inr (2, [.ref aW, .int R_waitingCount, .ref aT, .ref aL, .int u_23.1])), (aT, .inr (5, [.ref aS, .int T_length])), (aS, .inl (cS, 60, .inl fS)), (aL, .inr (1, [.ref aP, .int u_23.2.1, .int u_23.2.2.1, .ref rL_values, .int L_top])), (aP, .inl (cP, 60, .inl u_23.2.2.2))] H locs := hq
    refine lv_goto (tgt := 70) hx hb dX2_readCore_16 (by decide) ?_
    have hf : ((R_waitingCount, u_23.1, fW, u_23.2.1, u_23.2.2.1, u_23.2.2.2) : Int32 × Int32 × (Nat → Int32) × Int32 × Int32 × (Nat → Int32)) = fX2_readCore inn R_waitingCount R_at fW T_length fS L_count L_fault fP := by
      exact ((congrArg (fun (r_2 : Int32) => ((let u_1 : Int32 := (fX2_nextSign R_at T_length fS L_fault).2
  let r_5 : Int32 := fX2_isDigit r_2
  if r_5 = 0 then (
    let r_9 : Int32 := fX2_isLetter r_2
    if r_9 = 0 then (
      if r_2 = 40 then (
        let u_16 : Int32 × Int32 × (Nat → Int32) × Int32 × Int32 × (Nat → Int32) := inn R_waitingCount u_1 fW L_count L_fault fP
        (u_16.1, u_16.2.1, u_16.2.2.1, u_16.2.2.2.1, u_16.2.2.2.2.1, u_16.2.2.2.2.2))
      else (
        let u_13 : Int32 := fX2_refuse u_1 1 L_fault
        (R_waitingCount, u_1, fW, L_count, u_13, fP)))
    else (
      let at_19 : Int32 := u_1 + 1
      let u_20 : Int32 × (Nat → Int32) := fX1_addSign r_2 L_count fP
      (R_waitingCount, at_19, fW, u_20.1, L_fault, u_20.2)))
  else (
    let u_23 : Int32 × Int32 × Int32 × (Nat → Int32) := fX2_readNumber u_1 T_length fS L_count L_fault fP
    (R_waitingCount, u_23.1, fW, u_23.2.1, u_23.2.2.1, u_23.2.2.2))) : Int32 × Int32 × (Nat → Int32) × Int32 × Int32 × (Nat → Int32))) er_2.symm).trans ((congrArg (fun (u_1 : Int32) => ((let r_5 : Int32 := fX2_isDigit r_2
  if r_5 = 0 then (
    let r_9 : Int32 := fX2_isLetter r_2
    if r_9 = 0 then (
      if r_2 = 40 then (
        let u_16 : Int32 × Int32 × (Nat → Int32) × Int32 × Int32 × (Nat → Int32) := inn R_waitingCount u_1 fW L_count L_fault fP
        (u_16.1, u_16.2.1, u_16.2.2.1, u_16.2.2.2.1, u_16.2.2.2.2.1, u_16.2.2.2.2.2))
      else (
        let u_13 : Int32 := fX2_refuse u_1 1 L_fault
        (R_waitingCount, u_1, fW, L_count, u_13, fP)))
    else (
      let at_19 : Int32 := u_1 + 1
      let u_20 : Int32 × (Nat → Int32) := fX1_addSign r_2 L_count fP
      (R_waitingCount, at_19, fW, u_20.1, L_fault, u_20.2)))
  else (
    let u_23 : Int32 × Int32 × Int32 × (Nat → Int32) := fX2_readNumber u_1 T_length fS L_count L_fault fP
    (R_waitingCount, u_23.1, fW, u_23.2.1, u_23.2.2.1, u_23.2.2.2))) : Int32 × Int32 × (Nat → Int32) × Int32 × Int32 × (Nat → Int32))) eu_1.symm).trans ((congrArg (fun (r_5 : Int32) => ((if r_5 = 0 then (
    let r_9 : Int32 := fX2_isLetter r_2
    if r_9 = 0 then (
      if r_2 = 40 then (
        let u_16 : Int32 × Int32 × (Nat → Int32) × Int32 × Int32 × (Nat → Int32) := inn R_waitingCount u_1 fW L_count L_fault fP
        (u_16.1, u_16.2.1, u_16.2.2.1, u_16.2.2.2.1, u_16.2.2.2.2.1, u_16.2.2.2.2.2))
      else (
        let u_13 : Int32 := fX2_refuse u_1 1 L_fault
        (R_waitingCount, u_1, fW, L_count, u_13, fP)))
    else (
      let at_19 : Int32 := u_1 + 1
      let u_20 : Int32 × (Nat → Int32) := fX1_addSign r_2 L_count fP
      (R_waitingCount, at_19, fW, u_20.1, L_fault, u_20.2)))
  else (
    let u_23 : Int32 × Int32 × Int32 × (Nat → Int32) := fX2_readNumber u_1 T_length fS L_count L_fault fP
    (R_waitingCount, u_23.1, fW, u_23.2.1, u_23.2.2.1, u_23.2.2.2))) : Int32 × Int32 × (Nat → Int32) × Int32 × Int32 × (Nat → Int32))) er_5.symm).trans ((if_neg c_7).trans ((congrArg (fun (u_23 : Int32 × Int32 × Int32 × (Nat → Int32)) => (((R_waitingCount, u_23.1, fW, u_23.2.1, u_23.2.2.1, u_23.2.2.2)) : Int32 × Int32 × (Nat → Int32) × Int32 × Int32 × (Nat → Int32))) eu_23.symm)))))).symm
    have en_0 : 0 ≤ u_23.1.toInt := by first | assumption | omega
    have en_1 : u_23.1.toInt ≤ 60 := by first | assumption | omega
    have en_2 : 0 ≤ R_waitingCount.toInt := by first | assumption | omega
    have en_3 : R_waitingCount.toInt ≤ 60 := by first | assumption | omega
    have en_4 : 0 ≤ u_23.2.1.toInt := by first | assumption | omega
    have en_5 : u_23.2.1.toInt ≤ 60 := by first | assumption | omega
    exact kk_ev hx hb hr hlocks hK hq [1, 0, 2, 3, 4, 5] (R_waitingCount, u_23.1, fW, u_23.2.1, u_23.2.2.1, u_23.2.2.2) rfl (by decide) dX2_readCore_70 ⟨hf, en_0, en_1, en_2, en_3, en_4, en_5⟩
