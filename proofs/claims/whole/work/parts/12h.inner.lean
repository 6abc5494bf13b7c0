def fX2_readInner_0 (R_waitingCount : Int32) (R_at : Int32) (fW : Nat → Int32) (L_count : Int32) (L_fault : Int32) (fP : Nat → Int32) : Int32 × Int32 × (Nat → Int32) × Int32 × Int32 × (Nat → Int32) :=
  let u_2 : Int32 := fX2_refuse R_at 3 L_fault
  (R_waitingCount, R_at, fW, L_count, u_2, fP)

set_option maxHeartbeats 4000000 in
set_option maxRecDepth 100000 in
theorem c_X2_readInner_0 (l : Launch) (G : va_G) (aR aW aT aS aL aP rL_values : Nat) (cW cS cP : ClassId) (p1 : Int32) (R_waitingCount : Int32) (R_at : Int32) (fW : Nat → Int32) (T_length : Int32) (fS : Nat → Int32) (L_count : Int32) (L_fault : Int32) (L_top : Int32) (fP : Nat → Int32) (q0 : 0 ≤ R_at.toInt) (q1 : R_at.toInt ≤ 60) (n1 : T_length.toInt ≤ 60) (w0 : 0 ≤ R_waitingCount.toInt) (w1 : R_waitingCount.toInt ≤ 60) (k0 : 0 ≤ L_count.toInt) (k1 : L_count.toInt ≤ 60) (hp : ¬ p1 < 8) : kCv l yX2_readInner (Cond.code yX2_readInner cX2_readInner 2 none :: wsL_law) ({ frames := 1, cells := 0, slots := 0, locals := 22 }) G [(cW, .int), (cS, .int), (cP, .int)] [.ref aR, .int p1] [(aR, .inr (2, [.ref aW, .int R_waitingCount, .ref aT, .ref aL, .int R_at])), (aW, .inl (cW, 60, .inl fW)), (aT, .inr (5, [.ref aS, .int T_length])), (aS, .inl (cS, 60, .inl fS)), (aL, .inr (1, [.ref aP, .int L_count, .int L_fault, .ref rL_values, .int L_top])), (aP, .inl (cP, 60, .inl fP))] (fun (u : Int32 × Int32 × (Nat → Int32) × Int32 × Int32 × (Nat → Int32)) => u = fX2_readInner_0 R_waitingCount R_at fW L_count L_fault fP ∧ (0 ≤ u.2.1.toInt) ∧ (u.2.1.toInt ≤ 60) ∧ (0 ≤ u.1.toInt) ∧ (u.1.toInt ≤ 60) ∧ (0 ≤ u.2.2.2.1.toInt) ∧ (u.2.2.2.1.toInt ≤ 60)) (fun (u : Int32 × Int32 × (Nat → Int32) × Int32 × Int32 × (Nat → Int32)) => [(aR, .inr (2, [.ref aW, .int u.1, .ref aT, .ref aL, .int u.2.1])), (aW, .inl (cW, 60, .inl u.2.2.1)), (aT, .inr (5, [.ref aS, .int T_length])), (aS, .inl (cS, 60, .inl fS)), (aL, .inr (1, [.ref aP, .int u.2.2.2.1, .int u.2.2.2.2.1, .ref rL_values, .int L_top])), (aP, .inl (cP, 60, .inl u.2.2.2.2.2))]) := by
  intro sz
  refine Met.ofW (cc := cX2_readInner) (maxL := 2) (ret := none) (by decide) rfl ?_
  intro p e s m args below meth c s₁ B hml hv
  obtain ⟨rfl, hv⟩ := hv
  obtain ⟨rfl, hK, hq, hA⟩ := kk_begin hv
  have hx := B.exec
  have hb := B.bytes
  have hr := B.returns
  have hts := atoms_spec (ws := (Cond.code yX2_readInner cX2_readInner 2 none :: wsL_law)) B.pre
  have hown : s.vm.findClass RX2 = some m.cls := findClass_of_methodNamed B.named
  have hlocks := B.notSynchronized
  have hsb : ∀ w ∈ wsL_law, w ∈ (Cond.code yX2_readInner cX2_readInner 2 none :: wsL_law) := fun _ h => List.mem_cons_of_mem _ h
  generalize va_A [(aR, .inr (2, [.ref aW, .int R_waitingCount, .ref aT, .ref aL, .int R_at])), (aW, .inl (cW, 60, .inl fW)), (aT, .inr (5, [.ref aS, .int T_length])), (aS, .inl (cS, 60, .inl fS)), (aL, .inr (1, [.ref aP, .int L_count, .int L_fault, .ref rL_values, .int L_top])), (aP, .inl (cP, 60, .inl fP))] s.heap.size = A at hq hA ⊢
  have iX2 : ∀ w ∈ u_ws RX2 TX2 5, w ∈ (Cond.code yX2_readInner cX2_readInner 2 none :: wsL_law) := fun w h => hsb w (bin_X2 w h)
  have lk0_ := hts _ (hsb _ wd_110)
  have hl := lv_entry ([.ref aR, .int p1]) (n := 2) (Nat.le_of_ble_eq_true rfl)
  rw [lg_entry_eq]
  generalize (lg_sl ([.ref aR, .int p1]) ++ List.replicate (2 - (lg_sl ([.ref aR, .int p1])).length) Slot.unset).toArray = ls at hl ⊢
  have hl : lv_has ls 2 [(0, .ref aR), (1, .int p1)] := hl
  refine lv_iload_n hx hb dX2_readInner_0 rfl (lv_at hl 1 rfl) ?_
  refine lv_bipush (v := 8) hx hb dX2_readInner_1 (by decide) ?_
  refine lv_icmp_lt (tgt := 16) hx hb dX2_readInner_3 (by decide) (fun c_1 => ?_) (fun c_1 => ?_)
  · skip
    exact absurd c_1 hp
  · skip
    refine lv_aload_n hx hb dX2_readInner_6 rfl (lv_at hl 0 rfl) ?_
    refine lv_aload_n hx hb dX2_readInner_7 rfl (lv_at hl 0 rfl) ?_
    refine kk_get (ci := 2) (v := .int R_at) (C := RX2) (T := TX2) (N := 5) hx hb hts iX2 hown hK hq 0 rfl rfl 4 (by decide) lk0_ rfl dX2_readInner_8 ?_
    refine lv_iconst (v := 3) hx hb dX2_readInner_11 (by decide) ?_
    refine kk_Vv (As := [.int R_at, .int 3]) (rest := []) (wr := [(aW, .inl (cW, 60, .inl fW)), (aT, .inr (5, [.ref aS, .int T_length])), (aS, .inl (cS, 60, .inl fS)), (aP, .inl (cP, 60, .inl fP))]) ⟨hx, hb, hml, hown, hts⟩ (c_X2_refuse l G aR aL aW aT aP rL_values R_at 3 R_waitingCount R_at L_count L_fault L_top) (kk_cwV 2 hts hsb wd_225 wd_226 wd_227 wd_25 wd_228 rfl rfl hd_X2_refuse ⟨Nat.le_of_ble_eq_true rfl, Nat.le_of_ble_eq_true rfl⟩) hA hK hq [0, 4] [1, 2, 3, 5] [] rfl rfl rfl (by decide) (by decide) (by decide) 0 2 rfl rfl rfl rfl hl.1 rfl (Nat.le_of_ble_eq_true rfl) dX2_readInner_12 ⟨Nat.zero_le _, Nat.zero_le _⟩ (fun u_2 H locs h_4 hq => ?_)
    have eu_2 := h_4
    have hq : kAt G A s [(aW, .inl (cW, 60, .inl fW)), (aT, .inr (5, [.ref aS, .int T_length])), (aS, .inl (cS, 60, .inl fS)), (aP, .inl (cP, 60, .inl fP)), (aR, .inr (2, [.ref aW, .int R_waitingCount, .ref aT, .ref aL, .int R_at])), (aL, .inr (1, [.ref aP, .int L_count, .int u_2, .ref rL_values, .int L_top]))] H locs := hq
    have hf : ((R_waitingCount, R_at, fW, L_count, u_2, fP) : Int32 × Int32 × (Nat → Int32) × Int32 × Int32 × (Nat → Int32)) = fX2_readInner_0 R_waitingCount R_at fW L_count L_fault fP := by
      exact ((congrArg (fun (u_2 : Int32) => (((R_waitingCount, R_at, fW, L_count, u_2, fP)) : Int32 × Int32 × (Nat → Int32) × Int32 × Int32 × (Nat → Int32))) eu_2.symm)).symm
    have en_0 : 0 ≤ R_at.toInt := by first | assumption | omega
    have en_1 : R_at.toInt ≤ 60 := by first | assumption | omega
    have en_2 : 0 ≤ R_waitingCount.toInt := by first | assumption | omega
    have en_3 : R_waitingCount.toInt ≤ 60 := by first | assumption | omega
    have en_4 : 0 ≤ L_count.toInt := by first | assumption | omega
    have en_5 : L_count.toInt ≤ 60 := by first | assumption | omega
    exact kk_ev hx hb hr hlocks hK hq [4, 0, 1, 2, 5, 3] (R_waitingCount, R_at, fW, L_count, u_2, fP) rfl (by decide) dX2_readInner_15 ⟨hf, en_0, en_1, en_2, en_3, en_4, en_5⟩
theorem hd_X2_readValue : yX2_readValue.cls = RX2 ∧ yX2_readValue.cls ≠ "java/lang/invoke/MethodHandle" ∧ yX2_readValue.cls ≠ "java/lang/invoke/VarHandle" ∧ (parseMethodDescriptor yX2_readValue.desc).map (fun d => d.parameters.length) = some 1 := by decide +kernel
def fX2_readInner_1 (inn : Int32 → Int32 → (Nat → Int32) → Int32 → Int32 → (Nat → Int32) → Int32 × Int32 × (Nat → Int32) × Int32 × Int32 × (Nat → Int32)) (R_waitingCount : Int32) (R_at : Int32) (fW : Nat → Int32) (T_length : Int32) (fS : Nat → Int32) (L_count : Int32) (L_fault : Int32) (fP : Nat → Int32) : Int32 × Int32 × (Nat → Int32) × Int32 × Int32 × (Nat → Int32) :=
  let at_2 : Int32 := R_at + 1
  let u_3 : Int32 × Int32 × (Nat → Int32) × Int32 × Int32 × (Nat → Int32) := fX2_readValue inn R_waitingCount at_2 fW T_length fS L_count L_fault fP
  let r_7 : Int32 := (fX2_nextSign u_3.2.1 T_length fS u_3.2.2.2.2.1).1
  let u_6 : Int32 := (fX2_nextSign u_3.2.1 T_length fS u_3.2.2.2.2.1).2
  if r_7 = 41 then (
    let at_13 : Int32 := u_6 + 1
    (u_3.1, at_13, u_3.2.2.1, u_3.2.2.2.1, u_3.2.2.2.2.1, u_3.2.2.2.2.2))
  else (
    let u_10 : Int32 := fX2_refuse u_6 1 u_3.2.2.2.2.1
    (u_3.1, u_6, u_3.2.2.1, u_3.2.2.2.1, u_10, u_3.2.2.2.2.2))

set_option maxHeartbeats 4000000 in
set_option maxRecDepth 100000 in
theorem c_X2_readInner_1 (l : Launch) (G : va_G) (aR aW aT aS aL aP rL_values : Nat) (cW cS cP : ClassId) (F Q : Nat) (p1 : Int32) (R_waitingCount : Int32) (R_at : Int32) (fW : Nat → Int32) (T_length : Int32) (fS : Nat → Int32) (L_count : Int32) (L_fault : Int32) (L_top : Int32) (fP : Nat → Int32) (inn : Int32 → Int32 → (Nat → Int32) → Int32 → Int32 → (Nat → Int32) → Int32 × Int32 × (Nat → Int32) × Int32 × Int32 × (Nat → Int32)) (q0 : 0 ≤ R_at.toInt) (q1 : R_at.toInt ≤ 60) (n1 : T_length.toInt ≤ 60) (w0 : 0 ≤ R_waitingCount.toInt) (w1 : R_waitingCount.toInt ≤ 60) (k0 : 0 ≤ L_count.toInt) (k1 : L_count.toInt ≤ 60) (hp : p1 < 8) (hlt : R_at.toInt < 60) (hI : hy_inner l G aR aW aT aS aL aP rL_values cW cS cP F Q (p1 + 1) T_length fS inn) : kCv l yX2_readInner (Cond.code yX2_readInner cX2_readInner 2 none :: wsL_law) ({ frames := F + 10, cells := 0, slots := 0, locals := Q + 221 }) G [(cW, .int), (cS, .int), (cP, .int)] [.ref aR, .int p1] [(aR, .inr (2, [.ref aW, .int R_waitingCount, .ref aT, .ref aL, .int R_at])), (aW, .inl (cW, 60, .inl fW)), (aT, .inr (5, [.ref aS, .int T_length])), (aS, .inl (cS, 60, .inl fS)), (aL, .inr (1, [.ref aP, .int L_count, .int L_fault, .ref rL_values, .int L_top])), (aP, .inl (cP, 60, .inl fP))] (fun (u : Int32 × Int32 × (Nat → Int32) × Int32 × Int32 × (Nat → Int32)) => u = fX2_readInner_1 inn R_waitingCount R_at fW T_length fS L_count L_fault fP ∧ (0 ≤ u.2.1.toInt) ∧ (u.2.1.toInt ≤ 60) ∧ (0 ≤ u.1.toInt) ∧ (u.1.toInt ≤ 60) ∧ (0 ≤ u.2.2.2.1.toInt) ∧ (u.2.2.2.1.toInt ≤ 60)) (fun (u : Int32 × Int32 × (Nat → Int32) × Int32 × Int32 × (Nat → Int32)) => [(aR, .inr (2, [.ref aW, .int u.1, .ref aT, .ref aL, .int u.2.1])), (aW, .inl (cW, 60, .inl u.2.2.1)), (aT, .inr (5, [.ref aS, .int T_length])), (aS, .inl (cS, 60, .inl fS)), (aL, .inr (1, [.ref aP, .int u.2.2.2.1, .int u.2.2.2.2.1, .ref rL_values, .int L_top])), (aP, .inl (cP, 60, .inl u.2.2.2.2.2))]) := by
  intro sz
  refine Met.ofW (cc := cX2_readInner) (maxL := 2) (ret := none) (by decide) rfl ?_
  intro p e s m args below meth c s₁ B hml hv
  obtain ⟨rfl, hv⟩ := hv
  obtain ⟨rfl, hK, hq, hA⟩ := kk_begin hv
  have hx := B.exec
  have hb := B.bytes
  have hr := B.returns
  have hts := atoms_spec (ws := (Cond.code yX2_readInner cX2_readInner 2 none :: wsL_law)) B.pre
  have hown : s.vm.findClass RX2 = some m.cls := findClass_of_methodNamed B.named
  have hlocks := B.notSynchronized
  have hsb : ∀ w ∈ wsL_law, w ∈ (Cond.code yX2_readInner cX2_readInner 2 none :: wsL_law) := fun _ h => List.mem_cons_of_mem _ h
  generalize va_A [(aR, .inr (2, [.ref aW, .int R_waitingCount, .ref aT, .ref aL, .int R_at])), (aW, .inl (cW, 60, .inl fW)), (aT, .inr (5, [.ref aS, .int T_length])), (aS, .inl (cS, 60, .inl fS)), (aL, .inr (1, [.ref aP, .int L_count, .int L_fault, .ref rL_values, .int L_top])), (aP, .inl (cP, 60, .inl fP))] s.heap.size = A at hq hA ⊢
  have iX2 : ∀ w ∈ u_ws RX2 TX2 5, w ∈ (Cond.code yX2_readInner cX2_readInner 2 none :: wsL_law) := fun w h => hsb w (bin_X2 w h)
  have lk0_ := hts _ (hsb _ wd_110)
  have hl := lv_entry ([.ref aR, .int p1]) (n := 2) (Nat.le_of_ble_eq_true rfl)
  rw [lg_entry_eq]
  generalize (lg_sl ([.ref aR, .int p1]) ++ List.replicate (2 - (lg_sl ([.ref aR, .int p1])).length) Slot.unset).toArray = ls at hl ⊢
  have hl : lv_has ls 2 [(0, .ref aR), (1, .int p1)] := hl
  refine lv_iload_n hx hb dX2_readInner_0 rfl (lv_at hl 1 rfl) ?_
  refine lv_bipush (v := 8) hx hb dX2_readInner_1 (by decide) ?_
  refine lv_icmp_lt (tgt := 16) hx hb dX2_readInner_3 (by decide) (fun c_1 => ?_) (fun c_1 => ?_)
  · skip
    refine lv_aload_n hx hb dX2_readInner_16 rfl (lv_at hl 0 rfl) ?_
    refine lv_dup hx hb dX2_readInner_17 rfl ?_
    refine kk_get (ci := 2) (v := .int R_at) (C := RX2) (T := TX2) (N := 5) hx hb hts iX2 hown hK hq 0 rfl rfl 4 (by decide) lk0_ rfl dX2_readInner_18 ?_
    refine lv_iconst (v := 1) hx hb dX2_readInner_21 (by decide) ?_
    refine lv_iadd hx hb dX2_readInner_22 ?_
    refine lv_topi (fun at_2 eat_2 => ?_)
    refine kk_put (ws' := [(aR, .inr (2, [.ref aW, .int R_waitingCount, .ref aT, .ref aL, .int at_2])), (aW, .inl (cW, 60, .inl fW)), (aT, .inr (5, [.ref aS, .int T_length])), (aS, .inl (cS, 60, .inl fS)), (aL, .inr (1, [.ref aP, .int L_count, .int L_fault, .ref rL_values, .int L_top])), (aP, .inl (cP, 60, .inl fP))]) (ci := 2) (v := .int at_2) (C := RX2) (T := TX2) (N := 5) hx hb hts iX2 tyX2_ok nmX2 hown hK hq 0 rfl rfl 4 (by decide) lk0_ rfl rfl rfl (Nat.le_of_ble_eq_true rfl) dX2_readInner_23 rfl (fun H locs hq => ?_)
    have hat_2 := at_inc eat_2 (by assumption) hlt
    have q0at_2 : 0 ≤ at_2.toInt := hat_2.1
    have q1at_2 : at_2.toInt ≤ 60 := hat_2.2
    refine lv_aload_n hx hb dX2_readInner_26 rfl (lv_at hl 0 rfl) ?_
    refine lv_iload_n hx hb dX2_readInner_27 rfl (lv_at hl 1 rfl) ?_
    refine lv_iconst (v := 1) hx hb dX2_readInner_28 (by decide) ?_
    refine lv_iadd hx hb dX2_readInner_29 ?_
    refine kk_Vv (As := [.int (p1 + 1)]) (rest := []) (wr := []) ⟨hx, hb, hml, hown, hts⟩ (c_X2_readValue l G aR aW aT aS aL aP rL_values cW cS cP F Q (p1 + 1) R_waitingCount at_2 fW T_length fS L_count L_fault L_top fP inn (by assumption) (by assumption) (by assumption) (by assumption) (by assumption) (by assumption) (by assumption) (by assumption)) (kk_cwV 1 hts hsb wd_188 wd_189 wd_190 wd_25 wd_191 rfl rfl hd_X2_readValue ⟨by dsimp only [headSpec]; omega, by dsimp only [headSpec]; omega⟩) hA hK hq [0, 1, 2, 3, 4, 5] [] [0, 1, 2] rfl rfl rfl (by decide) (by decide) (by decide) 0 2 rfl rfl rfl rfl hl.1 rfl (Nat.le_of_ble_eq_true rfl) dX2_readInner_30 ⟨Nat.zero_le _, Nat.zero_le _⟩ (fun u_3 H locs h_5 hq => ?_)
    obtain ⟨eu_3, q0_u_3, q1_u_3, w0_u_3, w1_u_3, k0_u_3, k1_u_3⟩ := h_5
    have hq : kAt G A s [(aR, .inr (2, [.ref aW, .int u_3.1, .ref aT, .ref aL, .int u_3.2.1])), (aW, .inl (cW, 60, .inl u_3.2.2.1)), (aT, .inr (5, [.ref aS, .int T_length])), (aS, .inl (cS, 60, .inl fS)), (aL, .inr (1, [.ref aP, .int u_3.2.2.2.1, .int u_3.2.2.2.2.1, .ref rL_values, .int L_top])), (aP, .inl (cP, 60, .inl u_3.2.2.2.2.2))] H locs := hq
    refine lv_aload_n hx hb dX2_readInner_33 rfl (lv_at hl 0 rfl) ?_
    refine kk_Vi (As := []) (rest := []) (wr := [(aW, .inl (cW, 60, .inl u_3.2.2.1)), (aP, .inl (cP, 60, .inl u_3.2.2.2.2.2))]) ⟨hx, hb, hml, hown, hts⟩ (c_X2_nextSign l G aR aT aS aL aW aP rL_values cS u_3.1 u_3.2.1 T_length fS u_3.2.2.2.1 u_3.2.2.2.2.1 L_top (by assumption) (by assumption) (by assumption)) (kk_cwV 0 hts hsb wd_195 wd_196 wd_197 wd_25 wd_198 rfl rfl hd_X2_nextSign ⟨by dsimp only [headSpec]; omega, by dsimp only [headSpec]; omega⟩) hA hK hq [0, 2, 3, 4] [1, 5] [1] rfl rfl rfl (by decide) (by decide) (by decide) 0 2 rfl rfl rfl rfl hl.1 rfl (Nat.le_of_ble_eq_true rfl) dX2_readInner_34 ⟨Nat.zero_le _, Nat.zero_le _⟩ (fun r_7 u_6 H locs h_8 hq => ?_)
    obtain ⟨er_7, eu_6, q0_u_6, q1_u_6, nx_u_6⟩ := h_8
    have hq : kAt G A s [(aW, .inl (cW, 60, .inl u_3.2.2.1)), (aP, .inl (cP, 60, .inl u_3.2.2.2.2.2)), (aR, .inr (2, [.ref aW, .int u_3.1, .ref aT, .ref aL, .int u_6])), (aT, .inr (5, [.ref aS, .int T_length])), (aS, .inl (cS, 60, .inl fS)), (aL, .inr (1, [.ref aP, .int u_3.2.2.2.1, .int u_3.2.2.2.2.1, .ref rL_values, .int L_top]))] H locs := hq
    have nxh := nx_u_6
    refine lv_bipush (v := 41) hx hb dX2_readInner_37 (by decide) ?_
    refine lv_icmp_ne (tgt := 55) hx hb dX2_readInner_39 (by decide) (fun c_9 => ?_) (fun c_9 => ?_)
    · skip
      refine lv_aload_n hx hb dX2_readInner_55 rfl (lv_at hl 0 rfl) ?_
      refine lv_aload_n hx hb dX2_readInner_56 rfl (lv_at hl 0 rfl) ?_
      refine kk_get (ci := 2) (v := .int u_6) (C := RX2) (T := TX2) (N := 5) hx hb hts iX2 hown hK hq 2 rfl rfl 4 (by decide) lk0_ rfl dX2_readInner_57 ?_
      refine lv_iconst (v := 1) hx hb dX2_readInner_60 (by decide) ?_
      refine kk_Vv (As := [.int u_6, .int 1]) (rest := []) (wr := [(aW, .inl (cW, 60, .inl u_3.2.2.1)), (aP, .inl (cP, 60, .inl u_3.2.2.2.2.2)), (aT, .inr (5, [.ref aS, .int T_length])), (aS, .inl (cS, 60, .inl fS))]) ⟨hx, hb, hml, hown, hts⟩ (c_X2_refuse l G aR aL aW aT aP rL_values u_6 1 u_3.1 u_6 u_3.2.2.2.1 u_3.2.2.2.2.1 L_top) (kk_cwV 2 hts hsb wd_225 wd_226 wd_227 wd_25 wd_228 rfl rfl hd_X2_refuse ⟨by dsimp only [headSpec]; omega, by dsimp only [headSpec]; omega⟩) hA hK hq [2, 5] [0, 1, 3, 4] [] rfl rfl rfl (by decide) (by decide) (by decide) 0 2 rfl rfl rfl rfl hl.1 rfl (Nat.le_of_ble_eq_true rfl) dX2_readInner_61 ⟨Nat.zero_le _, Nat.zero_le _⟩ (fun u_10 H locs h_12 hq => ?_)
      have eu_10 := h_12
      have hq : kAt G A s [(aW, .inl (cW, 60, .inl u_3.2.2.1)), (aP, .inl (cP, 60, .inl u_3.2.2.2.2.2)), (aT, .inr (5, [.ref aS, .int T_length])), (aS, .inl (cS, 60, .inl fS)), (aR, .inr (2, [.ref aW, .int u_3.1, .ref aT, .ref aL, .int u_6])), (aL, .inr (1, [.ref aP, .int u_3.2.2.2.1, .int u_10, .ref rL_values, .int L_top]))] H locs := hq
      have hf : ((u_3.1, u_6, u_3.2.2.1, u_3.2.2.2.1, u_10, u_3.2.2.2.2.2) : Int32 × Int32 × (Nat → Int32) × Int32 × Int32 × (Nat → Int32)) = fX2_readInner_1 inn R_waitingCount R_at fW T_length fS L_count L_fault fP := by
        exact ((congrArg (fun (at_2 : Int32) => ((let u_3 : Int32 × Int32 × (Nat → Int32) × Int32 × Int32 × (Nat → Int32) := fX2_readValue inn R_waitingCount at_2 fW T_length fS L_count L_fault fP
  let r_7 : Int32 := (fX2_nextSign u_3.2.1 T_length fS u_3.2.2.2.2.1).1
  let u_6 : Int32 := (fX2_nextSign u_3.2.1 T_length fS u_3.2.2.2.2.1).2
  if r_7 = 41 then (
    let at_13 : Int32 := u_6 + 1
    (u_3.1, at_13, u_3.2.2.1, u_3.2.2.2.1, u_3.2.2.2.2.1, u_3.2.2.2.2.2))
  else (
    let u_10 : Int32 := fX2_refuse u_6 1 u_3.2.2.2.2.1
    (u_3.1, u_6, u_3.2.2.1, u_3.2.2.2.1, u_10, u_3.2.2.2.2.2))) : Int32 × Int32 × (Nat → Int32) × Int32 × Int32 × (Nat → Int32))) eat_2.symm).trans ((congrArg (fun (u_3 : Int32 × Int32 × (Nat → Int32) × Int32 × Int32 × (Nat → Int32)) => ((let r_7 : Int32 := (fX2_nextSign u_3.2.1 T_length fS u_3.2.2.2.2.1).1
  let u_6 : Int32 := (fX2_nextSign u_3.2.1 T_length fS u_3.2.2.2.2.1).2
  if r_7 = 41 then (
    let at_13 : Int32 := u_6 + 1
    (u_3.1, at_13, u_3.2.2.1, u_3.2.2.2.1, u_3.2.2.2.2.1, u_3.2.2.2.2.2))
  else (
    let u_10 : Int32 := fX2_refuse u_6 1 u_3.2.2.2.2.1
    (u_3.1, u_6, u_3.2.2.1, u_3.2.2.2.1, u_10, u_3.2.2.2.2.2))) : Int32 × Int32 × (Nat → Int32) × Int32 × Int32 × (Nat → Int32))) eu_3.symm).trans ((congrArg (fun (r_7 : Int32) => ((let u_6 : Int32 := (fX2_nextSign u_3.2.1 T_length fS u_3.2.2.2.2.1).2
  if r_7 = 41 then (
    let at_13 : Int32 := u_6 + 1
    (u_3.1, at_13, u_3.2.2.1, u_3.2.2.2.1, u_3.2.2.2.2.1, u_3.2.2.2.2.2))
  else (
    let u_10 : Int32 := fX2_refuse u_6 1 u_3.2.2.2.2.1
    (u_3.1, u_6, u_3.2.2.1, u_3.2.2.2.1, u_10, u_3.2.2.2.2.2))) : Int32 × Int32 × (Nat → Int32) × Int32 × Int32 × (Nat → Int32))) er_7.symm).trans ((congrArg (fun (u_6 : Int32) => ((if r_7 = 41 then (
    let at_13 : Int32 := u_6 + 1
    (u_3.1, at_13, u_3.2.2.1, u_3.2.2.2.1, u_3.2.2.2.2.1, u_3.2.2.2.2.2))
  else (
    let u_10 : Int32 := fX2_refuse u_6 1 u_3.2.2.2.2.1
    (u_3.1, u_6, u_3.2.2.1, u_3.2.2.2.1, u_10, u_3.2.2.2.2.2))) : Int32 × Int32 × (Nat → Int32) × Int32 × Int32 × (Nat → Int32))) eu_6.symm).trans ((if_neg c_9).trans ((congrArg (fun (u_10 : Int32) => (((u_3.1, u_6, u_3.2.2.1, u_3.2.2.2.1, u_10, u_3.2.2.2.2.2)) : Int32 × Int32 × (Nat → Int32) × Int32 × Int32 × (Nat → Int32))) eu_10.symm))))))).symm
      have en_0 : 0 ≤ u_6.toInt := by first | assumption | omega
      have en_1 : u_6.toInt ≤ 60 := by first | assumption | omega
      have en_2 : 0 ≤ u_3.1.toInt := by first | assumption | omega
      have en_3 : u_3.1.toInt ≤ 60 := by first | assumption | omega
      have en_4 : 0 ≤ u_3.2.2.2.1.toInt := by first | assumption | omega
      have en_5 : u_3.2.2.2.1.toInt ≤ 60 := by first | assumption | omega
      exact kk_ev hx hb hr hlocks hK hq [4, 0, 2, 3, 5, 1] (u_3.1, u_6, u_3.2.2.1, u_3.2.2.2.1, u_10, u_3.2.2.2.2.2) rfl (by decide) dX2_readInner_64 ⟨hf, en_0, en_1, en_2, en_3, en_4, en_5⟩
    · skip
      have hlt := nx_use nxh c_9 (by decide)
      refine lv_aload_n hx hb dX2_readInner_42 rfl (lv_at hl 0 rfl) ?_
      refine lv_dup hx hb dX2_readInner_43 rfl ?_
      refine kk_get (ci := 2) (v := .int u_6) (C := RX2) (T := TX2) (N := 5) hx hb hts iX2 hown hK hq 2 rfl rfl 4 (by decide) lk0_ rfl dX2_readInner_44 ?_
      refine lv_iconst (v := 1) hx hb dX2_readInner_47 (by decide) ?_
      refine lv_iadd hx hb dX2_readInner_48 ?_
      refine lv_topi (fun at_13 eat_13 => ?_)
      refine kk_put (ws' := [(aW, .inl (cW, 60, .inl u_3.2.2.1)), (aP, .inl (cP, 60, .inl u_3.2.2.2.2.2)), (aR, .inr (2, [.ref aW, .int u_3.1, .ref aT, .ref aL, .int at_13])), (aT, .inr (5, [.ref aS, .int T_length])), (aS, .inl (cS, 60, .inl fS)), (aL, .inr (1, [.ref aP, .int u_3.2.2.2.1, .int u_3.2.2.2.2.1, .ref rL_values, .int L_top]))]) (ci := 2) (v := .int at_13) (C := RX2) (T := TX2) (N := 5) hx hb hts iX2 tyX2_ok nmX2 hown hK hq 2 rfl rfl 4 (by decide) lk0_ rfl rfl rfl (Nat.le_of_ble_eq_true rfl) dX2_readInner_49 rfl (fun H locs hq => ?_)
      have hat_13 := at_inc eat_13 (by assumption) hlt
      have q0at_13 : 0 ≤ at_13.toInt := hat_13.1
      have q1at_13 : at_13.toInt ≤ 60 := hat_13.2
      refine lv_goto (tgt := 64) hx hb dX2_readInner_52 (by decide) ?_
      have hf : ((u_3.1, at_13, u_3.2.2.1, u_3.2.2.2.1, u_3.2.2.2.2.1, u_3.2.2.2.2.2) : Int32 × Int32 × (Nat → Int32) × Int32 × Int32 × (Nat → Int32)) = fX2_readInner_1 inn R_waitingCount R_at fW T_length fS L_count L_fault fP := by
        exact ((congrArg (fun (at_2 : Int32) => ((let u_3 : Int32 × Int32 × (Nat → Int32) × Int32 × Int32 × (Nat → Int32) := fX2_readValue inn R_waitingCount at_2 fW T_length fS L_count L_fault fP
  let r_7 : Int32 := (fX2_nextSign u_3.2.1 T_length fS u_3.2.2.2.2.1).1
  let u_6 : Int32 := (fX2_nextSign u_3.2.1 T_length fS u_3.2.2.2.2.1).2
  if r_7 = 41 then (
    let at_13 : Int32 := u_6 + 1
    (u_3.1, at_13, u_3.2.2.1, u_3.2.2.2.1, u_3.2.2.2.2.1, u_3.2.2.2.2.2))
  else (
    let u_10 : Int32 := fX2_refuse u_6 1 u_3.2.2.2.2.1
    (u_3.1, u_6, u_3.2.2.1, u_3.2.2.2.1, u_10, u_3.2.2.2.2.2))) : Int32 × Int32 × (Nat → Int32) × Int32 × Int32 × (Nat → Int32))) eat_2.symm).trans ((congrArg (fun (u_3 : Int32 × Int32 × (Nat → Int32) × Int32 × Int32 × (Nat → Int32)) => ((let r_7 : Int32 := (fX2_nextSign u_3.2.1 T_length fS u_3.2.2.2.2.1).1
  let u_6 : Int32 := (fX2_nextSign u_3.2.1 T_length fS u_3.2.2.2.2.1).2
  if r_7 = 41 then (
    let at_13 : Int32 := u_6 + 1
    (u_3.1, at_13, u_3.2.2.1, u_3.2.2.2.1, u_3.2.2.2.2.1, u_3.2.2.2.2.2))
  else (
    let u_10 : Int32 := fX2_refuse u_6 1 u_3.2.2.2.2.1
    (u_3.1, u_6, u_3.2.2.1, u_3.2.2.2.1, u_10, u_3.2.2.2.2.2))) : Int32 × Int32 × (Nat → Int32) × Int32 × Int32 × (Nat → Int32))) eu_3.symm).trans ((congrArg (fun (r_7 : Int32) => ((let u_6 : Int32 := (fX2_nextSign u_3.2.1 T_length fS u_3.2.2.2.2.1).2
  if r_7 = 41 then (
    let at_13 : Int32 := u_6 + 1
    (u_3.1, at_13, u_3.2.2.1, u_3.2.2.2.1, u_3.2.2.2.2.1, u_3.2.2.2.2.2))
  else (
    let u_10 : Int32 := fX2_refuse u_6 1 u_3.2.2.2.2.1
    (u_3.1, u_6, u_3.2.2.1, u_3.2.2.2.1, u_10, u_3.2.2.2.2.2))) : Int32 × Int32 × (Nat → Int32) × Int32 × Int32 × (Nat → Int32))) er_7.symm).trans ((congrArg (fun (u_6 : Int32) => ((if r_7 = 41 then (
    let at_13 : Int32 := u_6 + 1
    (u_3.1, at_13, u_3.2.2.1, u_3.2.2.2.1, u_3.2.2.2.2.1, u_3.2.2.2.2.2))
  else (
    let u_10 : Int32 := fX2_refuse u_6 1 u_3.2.2.2.2.1
    (u_3.1, u_6, u_3.2.2.1, u_3.2.2.2.1, u_10, u_3.2.2.2.2.2))) : Int32 × Int32 × (Nat → Int32) × Int32 × Int32 × (Nat → Int32))) eu_6.symm).trans ((if_pos c_9).trans ((congrArg (fun (at_13 : Int32) => (((u_3.1, at_13, u_3.2.2.1, u_3.2.2.2.1, u_3.2.2.2.2.1, u_3.2.2.2.2.2)) : Int32 × Int32 × (Nat → Int32) × Int32 × Int32 × (Nat → Int32))) eat_13.symm))))))).symm
      have en_0 : 0 ≤ at_13.toInt := by first | assumption | omega
      have en_1 : at_13.toInt ≤ 60 := by first | assumption | omega
      have en_2 : 0 ≤ u_3.1.toInt := by first | assumption | omega
      have en_3 : u_3.1.toInt ≤ 60 := by first | assumption | omega
      have en_4 : 0 ≤ u_3.2.2.2.1.toInt := by first | assumption | omega
      have en_5 : u_3.2.2.2.1.toInt ≤ 60 := by first | assumption | omega
      exact kk_ev hx hb hr hlocks hK hq [2, 0, 3, 4, 5, 1] (u_3.1, at_13, u_3.2.2.1, u_3.2.2.2.1, u_3.2.2.2.2.1, u_3.2.2.2.2.2) rfl (by decide) dX2_readInner_64 ⟨hf, en_0, en_1, en_2, en_3, en_4, en_5⟩
  · skip
    exact absurd hp c_1
