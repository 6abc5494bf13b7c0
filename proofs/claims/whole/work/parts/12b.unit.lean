theorem hd_X2_readCore : yX2_readCore.cls = RX2 ∧ yX2_readCore.cls ≠ "java/lang/invoke/MethodHandle" ∧ yX2_readCore.cls ≠ "java/lang/invoke/VarHandle" ∧ (parseMethodDescriptor yX2_readCore.desc).map (fun d => d.parameters.length) = some 1 := by decide +kernel
theorem hd_X2_readSignsBefore : yX2_readSignsBefore.cls = RX2 ∧ yX2_readSignsBefore.cls ≠ "java/lang/invoke/MethodHandle" ∧ yX2_readSignsBefore.cls ≠ "java/lang/invoke/VarHandle" ∧ (parseMethodDescriptor yX2_readSignsBefore.desc).map (fun d => d.parameters.length) = some 0 := by decide +kernel
def lpX2_readUnit_14 (R_waitingCount : Int32) (u_4 : Int32 × Int32 × (Nat → Int32) × Int32 × Int32 × (Nat → Int32)) : Nat → Int32 → Int32 → (Nat → Int32) → Int32 × Int32 × (Nat → Int32)
  | 0, _, _, _ => (0, 0, fun _ => 0)
  | N + 1, wc, cn, pf =>
    if wc ≤ R_waitingCount then (
    (wc, cn, pf))
    else (
    if wc ≤ 0 then (
    (wc, cn, pf))
    else (
    let waitingCount_9 : Int32 := wc - 1
    let u_10 : Int32 × (Nat → Int32) := fX1_addSign (u_4.2.2.1 waitingCount_9.toNatClampNeg) cn pf
    lpX2_readUnit_14 R_waitingCount u_4 N waitingCount_9 u_10.1 u_10.2))

def fX2_readUnit (inn : Int32 → Int32 → (Nat → Int32) → Int32 → Int32 → (Nat → Int32) → Int32 × Int32 × (Nat → Int32) × Int32 × Int32 × (Nat → Int32)) (R_waitingCount : Int32) (R_at : Int32) (fW : Nat → Int32) (T_length : Int32) (fS : Nat → Int32) (L_count : Int32) (L_fault : Int32) (fP : Nat → Int32) : Int32 × Int32 × (Nat → Int32) × Int32 × Int32 × (Nat → Int32) :=
  let u_1 : Int32 × Int32 × (Nat → Int32) := fX2_readSignsBefore R_waitingCount R_at fW T_length fS L_fault
  let u_4 : Int32 × Int32 × (Nat → Int32) × Int32 × Int32 × (Nat → Int32) := fX2_readCore inn u_1.1 u_1.2.1 u_1.2.2 T_length fS L_count L_fault fP
  let z_12 : Int32 × Int32 × (Nat → Int32) := lpX2_readUnit_14 R_waitingCount u_4 (61) u_4.1 u_4.2.2.2.1 u_4.2.2.2.2.2
  (z_12.1, u_4.2.1, u_4.2.2.1, z_12.2.1, u_4.2.2.2.2.1, z_12.2.2)

set_option maxHeartbeats 4000000 in
set_option maxRecDepth 100000 in
theorem c_X2_readUnit (l : Launch) (G : va_G) (aR aW aT aS aL aP rL_values : Nat) (cW cS cP : ClassId) (F Q : Nat) (p1 : Int32) (R_waitingCount : Int32) (R_at : Int32) (fW : Nat → Int32) (T_length : Int32) (fS : Nat → Int32) (L_count : Int32) (L_fault : Int32) (L_top : Int32) (fP : Nat → Int32) (inn : Int32 → Int32 → (Nat → Int32) → Int32 → Int32 → (Nat → Int32) → Int32 × Int32 × (Nat → Int32) × Int32 × Int32 × (Nat → Int32)) (q0 : 0 ≤ R_at.toInt) (q1 : R_at.toInt ≤ 60) (n1 : T_length.toInt ≤ 60) (w0 : 0 ≤ R_waitingCount.toInt) (w1 : R_waitingCount.toInt ≤ 60) (k0 : 0 ≤ L_count.toInt) (k1 : L_count.toInt ≤ 60) (hI : hy_inner l G aR aW aT aS aL aP rL_values cW cS cP F Q p1 T_length fS inn) : kCv l yX2_readUnit (Cond.code yX2_readUnit cX2_readUnit 3 none :: wsL_law) ({ frames := F + 4, cells := 0, slots := 0, locals := Q + 87 }) G [(cW, .int), (cS, .int), (cP, .int)] [.ref aR, .int p1] [(aR, .inr (2, [.ref aW, .int R_waitingCount, .ref aT, .ref aL, .int R_at])), (aW, .inl (cW, 60, .inl fW)), (aT, .inr (5, [.ref aS, .int T_length])), (aS, .inl (cS, 60, .inl fS)), (aL, .inr (1, [.ref aP, .int L_count, .int L_fault, .ref rL_values, .int L_top])), (aP, .inl (cP, 60, .inl fP))] (fun (u : Int32 × Int32 × (Nat → Int32) × Int32 × Int32 × (Nat → Int32)) => u = fX2_readUnit inn R_waitingCount R_at fW T_length fS L_count L_fault fP ∧ (0 ≤ u.2.1.toInt) ∧ (u.2.1.toInt ≤ 60) ∧ (0 ≤ u.1.toInt) ∧ (u.1.toInt ≤ 60) ∧ (0 ≤ u.2.2.2.1.toInt) ∧ (u.2.2.2.1.toInt ≤ 60)) (fun (u : Int32 × Int32 × (Nat → Int32) × Int32 × Int32 × (Nat → Int32)) => [(aR, .inr (2, [.ref aW, .int u.1, .ref aT, .ref aL, .int u.2.1])), (aW, .inl (cW, 60, .inl u.2.2.1)), (aT, .inr (5, [.ref aS, .int T_length])), (aS, .inl (cS, 60, .inl fS)), (aL, .inr (1, [.ref aP, .int u.2.2.2.1, .int u.2.2.2.2.1, .ref rL_values, .int L_top])), (aP, .inl (cP, 60, .inl u.2.2.2.2.2))]) := by
  intro sz
  refine Met.ofW (cc := cX2_readUnit) (maxL := 3) (ret := none) (by decide) rfl ?_
  intro p e s m args below meth c s₁ B hml hv
  obtain ⟨rfl, hv⟩ := hv
  obtain ⟨rfl, hK, hq, hA⟩ := kk_begin hv
  have hx := B.exec
  have hb := B.bytes
  have hr := B.returns
  have hts := atoms_spec (ws := (Cond.code yX2_readUnit cX2_readUnit 3 none :: wsL_law)) B.pre
  have hown : s.vm.findClass RX2 = some m.cls := findClass_of_methodNamed B.named
  have hlocks := B.notSynchronized
  have hsb : ∀ w ∈ wsL_law, w ∈ (Cond.code yX2_readUnit cX2_readUnit 3 none :: wsL_law) := fun _ h => List.mem_cons_of_mem _ h
  generalize va_A [(aR, .inr (2, [.ref aW, .int R_waitingCount, .ref aT, .ref aL, .int R_at])), (aW, .inl (cW, 60, .inl fW)), (aT, .inr (5, [.ref aS, .int T_length])), (aS, .inl (cS, 60, .inl fS)), (aL, .inr (1, [.ref aP, .int L_count, .int L_fault, .ref rL_values, .int L_top])), (aP, .inl (cP, 60, .inl fP))] s.heap.size = A at hq hA ⊢
  have iX2 : ∀ w ∈ u_ws RX2 TX2 5, w ∈ (Cond.code yX2_readUnit cX2_readUnit 3 none :: wsL_law) := fun w h => hsb w (bin_X2 w h)
  have lk0_ := hts _ (hsb _ wd_109)
  have lk1_ := hts _ (hsb _ wd_112)
  have lk2_ := hts _ (hsb _ wd_108)
  have hl := lv_entry ([.ref aR, .int p1]) (n := 3) (Nat.le_of_ble_eq_true rfl)
  rw [lg_entry_eq]
  generalize (lg_sl ([.ref aR, .int p1]) ++ List.replicate (3 - (lg_sl ([.ref aR, .int p1])).length) Slot.unset).toArray = ls at hl ⊢
  have hl : lv_has ls 3 [(0, .ref aR), (1, .int p1)] := hl
  refine lv_aload_n hx hb dX2_readUnit_0 rfl (lv_at hl 0 rfl) ?_
  refine kk_get (ci := 2) (v := .int R_waitingCount) (C := RX2) (T := TX2) (N := 5) hx hb hts iX2 hown hK hq 0 rfl rfl 1 (by decide) lk0_ rfl dX2_readUnit_1 ?_
  refine lv_istore_n (lv' := [(2, .int R_waitingCount), (0, .ref aR), (1, .int p1)]) hx hb dX2_readUnit_4 rfl hl (by decide) rfl (fun ls hl => ?_)
  refine lv_aload_n hx hb dX2_readUnit_5 rfl (lv_at hl 1 rfl) ?_
  refine kk_Vv (As := []) (rest := []) (wr := [(aP, .inl (cP, 60, .inl fP))]) ⟨hx, hb, hml, hown, hts⟩ (c_X2_readSignsBefore l G aR aW aT aS aL aP rL_values cW cS R_waitingCount R_at fW T_length fS L_count L_fault L_top (by assumption) (by assumption) (by assumption) (by assumption) (by assumption)) (kk_cwV 0 hts hsb wd_253 wd_254 wd_255 wd_25 wd_256 rfl rfl hd_X2_readSignsBefore ⟨by dsimp only [headSpec]; omega, by dsimp only [headSpec]; omega⟩) hA hK hq [0, 1, 2, 3, 4] [5] [0, 1] rfl rfl rfl (by decide) (by decide) (by decide) 0 2 rfl rfl rfl rfl hl.1 rfl (Nat.le_of_ble_eq_true rfl) dX2_readUnit_6 ⟨Nat.zero_le _, Nat.zero_le _⟩ (fun u_1 H locs h_3 hq => ?_)
  obtain ⟨eu_1, q0_u_1, q1_u_1, w0_u_1, w1_u_1⟩ := h_3
  have hq : kAt G A s [(aP, .inl (cP, 60, .inl fP)), (aR, .inr (2, [.ref aW, .int u_1.1, .ref aT, .ref aL, .int u_1.2.1])), (aW, .inl (cW, 60, .inl u_1.2.2)), (aT, .inr (5, [.ref aS, .int T_length])), (aS, .inl (cS, 60, .inl fS)), (aL, .inr (1, [.ref aP, .int L_count, .int L_fault, .ref rL_values, .int L_top]))] H locs := hq
  refine lv_aload_n hx hb dX2_readUnit_9 rfl (lv_at hl 1 rfl) ?_
  refine lv_iload_n hx hb dX2_readUnit_10 rfl (lv_at hl 2 rfl) ?_
  refine kk_Vv (As := [.int p1]) (rest := []) (wr := []) ⟨hx, hb, hml, hown, hts⟩ (c_X2_readCore l G aR aW aT aS aL aP rL_values cW cS cP F Q p1 u_1.1 u_1.2.1 u_1.2.2 T_length fS L_count L_fault L_top fP inn (by assumption) (by assumption) (by assumption) (by assumption) (by assumption) (by assumption) (by assumption) (by assumption)) (kk_cwV 1 hts hsb wd_257 wd_258 wd_259 wd_25 wd_217 rfl rfl hd_X2_readCore ⟨by dsimp only [headSpec]; omega, by dsimp only [headSpec]; omega⟩) hA hK hq [1, 2, 3, 4, 5, 0] [] [0, 1, 2] rfl rfl rfl (by decide) (by decide) (by decide) 0 2 rfl rfl rfl rfl hl.1 rfl (Nat.le_of_ble_eq_true rfl) dX2_readUnit_11 ⟨Nat.zero_le _, Nat.zero_le _⟩ (fun u_4 H locs h_6 hq => ?_)
  obtain ⟨eu_4, q0_u_4, q1_u_4, w0_u_4, w1_u_4, k0_u_4, k1_u_4⟩ := h_6
  have hq : kAt G A s [(aR, .inr (2, [.ref aW, .int u_4.1, .ref aT, .ref aL, .int u_4.2.1])), (aW, .inl (cW, 60, .inl u_4.2.2.1)), (aT, .inr (5, [.ref aS, .int T_length])), (aS, .inl (cS, 60, .inl fS)), (aL, .inr (1, [.ref aP, .int u_4.2.2.2.1, .int u_4.2.2.2.2.1, .ref rL_values, .int L_top])), (aP, .inl (cP, 60, .inl u_4.2.2.2.2.2))] H locs := hq
  refine kk_loop3 (fun N (wc : Int32) (cn : Int32) (pf : Nat → Int32) (H : Heap) (locs : List Loc) (ls : Array Slot) => lpX2_readUnit_14 R_waitingCount u_4 (61) u_4.1 u_4.2.2.2.1 u_4.2.2.2.2.2 = lpX2_readUnit_14 R_waitingCount u_4 N wc cn pf ∧ (0 ≤ wc.toInt) ∧ (wc.toInt ≤ 60) ∧ (0 ≤ cn.toInt) ∧ (cn.toInt ≤ 60) ∧ (wc.toInt < N) ∧ lv_has ls 3 [(2, .int R_waitingCount), (0, .ref aR), (1, .int p1)] ∧ kAt G A s [(aR, .inr (2, [.ref aW, .int wc, .ref aT, .ref aL, .int u_4.2.1])), (aW, .inl (cW, 60, .inl u_4.2.2.1)), (aT, .inr (5, [.ref aS, .int T_length])), (aS, .inl (cS, 60, .inl fS)), (aL, .inr (1, [.ref aP, .int cn, .int u_4.2.2.2.2.1, .ref rL_values, .int L_top])), (aP, .inl (cP, 60, .inl pf))] H locs) 14 (fun wc cn pf => []) (fun wc cn pf H locs ls hv => ?_) (fun N wc cn pf H locs ls ih hv => ?_) (61) u_4.1 u_4.2.2.2.1 u_4.2.2.2.2.2 _ _ _ ⟨rfl, (by assumption), (by assumption), (by assumption), (by assumption), (by omega), lv_sub hl [0, 1, 2] rfl, hq⟩
  · skip
    obtain ⟨hrel, v0, v1, d0, d1, hN, hl, hq⟩ := hv
    omega
  · skip
    obtain ⟨hrel, v0, v1, d0, d1, hN, hl, hq⟩ := hv
    refine lv_aload_n hx hb dX2_readUnit_14 rfl (lv_at hl 1 rfl) ?_
    refine kk_get (ci := 2) (v := .int wc) (C := RX2) (T := TX2) (N := 5) hx hb hts iX2 hown hK hq 0 rfl rfl 1 (by decide) lk0_ rfl dX2_readUnit_15 ?_
    refine lv_iload_n hx hb dX2_readUnit_18 rfl (lv_at hl 0 rfl) ?_
    refine lv_icmp_le (tgt := 58) hx hb dX2_readUnit_19 (by decide) (fun c_7 => ?_) (fun c_7 => ?_)
    · skip
      have hx_8 : ((wc, cn, pf) : Int32 × Int32 × (Nat → Int32)) = lpX2_readUnit_14 R_waitingCount u_4 (61) u_4.1 u_4.2.2.2.1 u_4.2.2.2.2.2 := (hrel.trans ((if_pos c_7))).symm
      obtain ⟨z_9, gz_9⟩ : ∃ z : Int32 × Int32 × (Nat → Int32), z = (wc, cn, pf) := ⟨_, rfl⟩
      have ez_9 : z_9 = lpX2_readUnit_14 R_waitingCount u_4 (61) u_4.1 u_4.2.2.2.1 u_4.2.2.2.2.2 := gz_9.trans hx_8
      have hl : lv_has ls 3 [(2, .int R_waitingCount), (0, .ref aR), (1, .int p1)] := by subst gz_9; exact hl
      have hq : kAt G A s [(aR, .inr (2, [.ref aW, .int z_9.1, .ref aT, .ref aL, .int u_4.2.1])), (aW, .inl (cW, 60, .inl u_4.2.2.1)), (aT, .inr (5, [.ref aS, .int T_length])), (aS, .inl (cS, 60, .inl fS)), (aL, .inr (1, [.ref aP, .int z_9.2.1, .int u_4.2.2.2.2.1, .ref rL_values, .int L_top])), (aP, .inl (cP, 60, .inl z_9.2.2))] H locs := by subst gz_9; exact hq
      have w0f : 0 ≤ z_9.1.toInt := by subst gz_9; assumption
      have w1f : z_9.1.toInt ≤ 60 := by subst gz_9; assumption
      have k0f : 0 ≤ z_9.2.1.toInt := by subst gz_9; assumption
      have k1f : z_9.2.1.toInt ≤ 60 := by subst gz_9; assumption
      have hf : ((z_9.1, u_4.2.1, u_4.2.2.1, z_9.2.1, u_4.2.2.2.2.1, z_9.2.2) : Int32 × Int32 × (Nat → Int32) × Int32 × Int32 × (Nat → Int32)) = fX2_readUnit inn R_waitingCount R_at fW T_length fS L_count L_fault fP := by
        exact ((congrArg (fun (u_1 : Int32 × Int32 × (Nat → Int32)) => ((let u_4 : Int32 × Int32 × (Nat → Int32) × Int32 × Int32 × (Nat → Int32) := fX2_readCore inn u_1.1 u_1.2.1 u_1.2.2 T_length fS L_count L_fault fP
  let z_12 : Int32 × Int32 × (Nat → Int32) := lpX2_readUnit_14 R_waitingCount u_4 (61) u_4.1 u_4.2.2.2.1 u_4.2.2.2.2.2
  (z_12.1, u_4.2.1, u_4.2.2.1, z_12.2.1, u_4.2.2.2.2.1, z_12.2.2)) : Int32 × Int32 × (Nat → Int32) × Int32 × Int32 × (Nat → Int32))) eu_1.symm).trans ((congrArg (fun (u_4 : Int32 × Int32 × (Nat → Int32) × Int32 × Int32 × (Nat → Int32)) => ((let z_12 : Int32 × Int32 × (Nat → Int32) := lpX2_readUnit_14 R_waitingCount u_4 (61) u_4.1 u_4.2.2.2.1 u_4.2.2.2.2.2
  (z_12.1, u_4.2.1, u_4.2.2.1, z_12.2.1, u_4.2.2.2.2.1, z_12.2.2)) : Int32 × Int32 × (Nat → Int32) × Int32 × Int32 × (Nat → Int32))) eu_4.symm).trans ((congrArg (fun (z_9 : Int32 × Int32 × (Nat → Int32)) => (((z_9.1, u_4.2.1, u_4.2.2.1, z_9.2.1, u_4.2.2.2.2.1, z_9.2.2)) : Int32 × Int32 × (Nat → Int32) × Int32 × Int32 × (Nat → Int32))) ez_9.symm)))).symm
      have en_0 : 0 ≤ u_4.2.1.toInt := by first | assumption | omega
      have en_1 : u_4.2.1.toInt ≤ 60 := by first | assumption | omega
      have en_2 : 0 ≤ z_9.1.toInt := by first | assumption | omega
      have en_3 : z_9.1.toInt ≤ 60 := by first | assumption | omega
      have en_4 : 0 ≤ z_9.2.1.toInt := by first | assumption | omega
      have en_5 : z_9.2.1.toInt ≤ 60 := by first | assumption | omega
      exact kk_ev hx hb hr hlocks hK hq [0, 1, 2, 3, 4, 5] (z_9.1, u_4.2.1, u_4.2.2.1, z_9.2.1, u_4.2.2.2.2.1, z_9.2.2) rfl (by decide) dX2_readUnit_58 ⟨hf, en_0, en_1, en_2, en_3, en_4, en_5⟩
    · skip
      refine lv_aload_n hx hb dX2_readUnit_22 rfl (lv_at hl 1 rfl) ?_
      refine kk_get (ci := 2) (v := .int wc) (C := RX2) (T := TX2) (N := 5) hx hb hts iX2 hown hK hq 0 rfl rfl 1 (by decide) lk0_ rfl dX2_readUnit_23 ?_
      refine lv_if_le (tgt := 58) hx hb dX2_readUnit_26 (by decide) (fun c_10 => ?_) (fun c_10 => ?_)
      · skip
        have hx_11 : ((wc, cn, pf) : Int32 × Int32 × (Nat → Int32)) = lpX2_readUnit_14 R_waitingCount u_4 (61) u_4.1 u_4.2.2.2.1 u_4.2.2.2.2.2 := (hrel.trans ((if_neg c_7).trans ((if_pos c_10)))).symm
        obtain ⟨z_12, gz_12⟩ : ∃ z : Int32 × Int32 × (Nat → Int32), z = (wc, cn, pf) := ⟨_, rfl⟩
        have ez_12 : z_12 = lpX2_readUnit_14 R_waitingCount u_4 (61) u_4.1 u_4.2.2.2.1 u_4.2.2.2.2.2 := gz_12.trans hx_11
        have hl : lv_has ls 3 [(2, .int R_waitingCount), (0, .ref aR), (1, .int p1)] := by subst gz_12; exact hl
        have hq : kAt G A s [(aR, .inr (2, [.ref aW, .int z_12.1, .ref aT, .ref aL, .int u_4.2.1])), (aW, .inl (cW, 60, .inl u_4.2.2.1)), (aT, .inr (5, [.ref aS, .int T_length])), (aS, .inl (cS, 60, .inl fS)), (aL, .inr (1, [.ref aP, .int z_12.2.1, .int u_4.2.2.2.2.1, .ref rL_values, .int L_top])), (aP, .inl (cP, 60, .inl z_12.2.2))] H locs := by subst gz_12; exact hq
        have w0f : 0 ≤ z_12.1.toInt := by subst gz_12; assumption
        have w1f : z_12.1.toInt ≤ 60 := by subst gz_12; assumption
        have k0f : 0 ≤ z_12.2.1.toInt := by subst gz_12; assumption
        have k1f : z_12.2.1.toInt ≤ 60 := by subst gz_12; assumption
        have hf : ((z_12.1, u_4.2.1, u_4.2.2.1, z_12.2.1, u_4.2.2.2.2.1, z_12.2.2) : Int32 × Int32 × (Nat → Int32) × Int32 × Int32 × (Nat → Int32)) = fX2_readUnit inn R_waitingCount R_at fW T_length fS L_count L_fault fP := by
          exact ((congrArg (fun (u_1 : Int32 × Int32 × (Nat → Int32)) => ((let u_4 : Int32 × Int32 × (Nat → Int32) × Int32 × Int32 × (Nat → Int32) := fX2_readCore inn u_1.1 u_1.2.1 u_1.2.2 T_length fS L_count L_fault fP
  let z_12 : Int32 × Int32 × (Nat → Int32) := lpX2_readUnit_14 R_waitingCount u_4 (61) u_4.1 u_4.2.2.2.1 u_4.2.2.2.2.2
  (z_12.1, u_4.2.1, u_4.2.2.1, z_12.2.1, u_4.2.2.2.2.1, z_12.2.2)) : Int32 × Int32 × (Nat → Int32) × Int32 × Int32 × (Nat → Int32))) eu_1.symm).trans ((congrArg (fun (u_4 : Int32 × Int32 × (Nat → Int32) × Int32 × Int32 × (Nat → Int32)) => ((let z_12 : Int32 × Int32 × (Nat → Int32) := lpX2_readUnit_14 R_waitingCount u_4 (61) u_4.1 u_4.2.2.2.1 u_4.2.2.2.2.2
  (z_12.1, u_4.2.1, u_4.2.2.1, z_12.2.1, u_4.2.2.2.2.1, z_12.2.2)) : Int32 × Int32 × (Nat → Int32) × Int32 × Int32 × (Nat → Int32))) eu_4.symm).trans ((congrArg (fun (z_12 : Int32 × Int32 × (Nat → Int32)) => (((z_12.1, u_4.2.1, u_4.2.2.1, z_12.2.1, u_4.2.2.2.2.1, z_12.2.2)) : Int32 × Int32 × (Nat → Int32) × Int32 × Int32 × (Nat → Int32))) ez_12.symm)))).symm
        have en_0 : 0 ≤ u_4.2.1.toInt := by first | assumption | omega
        have en_1 : u_4.2.1.toInt ≤ 60 := by first | assumption | omega
        have en_2 : 0 ≤ z_12.1.toInt := by first | assumption | omega
        have en_3 : z_12.1.toInt ≤ 60 := by first | assumption | omega
        have en_4 : 0 ≤ z_12.2.1.toInt := by first | assumption | omega
        have en_5 : z_12.2.1.toInt ≤ 60 := by first | assumption | omega
        exact kk_ev hx hb hr hlocks hK hq [0, 1, 2, 3, 4, 5] (z_12.1, u_4.2.1, u_4.2.2.1, z_12.2.1, u_4.2.2.2.2.1, z_12.2.2) rfl (by decide) dX2_readUnit_58 ⟨hf, en_0, en_1, en_2, en_3, en_4, en_5⟩
      · skip
        have hwp := kk_nle2 (k := 0) rfl c_10
        refine lv_aload_n hx hb dX2_readUnit_29 rfl (lv_at hl 1 rfl) ?_
        refine lv_dup hx hb dX2_readUnit_30 rfl ?_
        refine kk_get (ci := 2) (v := .int wc) (C := RX2) (T := TX2) (N := 5) hx hb hts iX2 hown hK hq 0 rfl rfl 1 (by decide) lk0_ rfl dX2_readUnit_31 ?_
        refine lv_iconst (v := 1) hx hb dX2_readUnit_34 (by decide) ?_
        refine lv_isub hx hb dX2_readUnit_35 ?_
        refine lv_topi (fun waitingCount_13 ewaitingCount_13 => ?_)
        refine kk_put (ws' := [(aR, .inr (2, [.ref aW, .int waitingCount_13, .ref aT, .ref aL, .int u_4.2.1])), (aW, .inl (cW, 60, .inl u_4.2.2.1)), (aT, .inr (5, [.ref aS, .int T_length])), (aS, .inl (cS, 60, .inl fS)), (aL, .inr (1, [.ref aP, .int cn, .int u_4.2.2.2.2.1, .ref rL_values, .int L_top])), (aP, .inl (cP, 60, .inl pf))]) (ci := 2) (v := .int waitingCount_13) (C := RX2) (T := TX2) (N := 5) hx hb hts iX2 tyX2_ok nmX2 hown hK hq 0 rfl rfl 1 (by decide) lk0_ rfl rfl rfl (Nat.le_of_ble_eq_true rfl) dX2_readUnit_36 rfl (fun H locs hq => ?_)
        have hwaitingCount_13 : 0 ≤ waitingCount_13.toInt ∧ waitingCount_13.toInt ≤ 60 := by rw [ewaitingCount_13]; have := kk_dec (x := wc) (by omega); omega
        have w0waitingCount_13 : 0 ≤ waitingCount_13.toInt := hwaitingCount_13.1
        have w1waitingCount_13 : waitingCount_13.toInt ≤ 60 := hwaitingCount_13.2
        have hw6 : waitingCount_13.toInt < (60 : Nat) := by rw [ewaitingCount_13]; have := kk_dec (x := wc) (by omega); omega
        refine lv_aload_n hx hb dX2_readUnit_39 rfl (lv_at hl 1 rfl) ?_
        refine kk_get (ci := 2) (v := .ref aL) (C := RX2) (T := TX2) (N := 5) hx hb hts iX2 hown hK hq 0 rfl rfl 3 (by decide) lk1_ rfl dX2_readUnit_40 ?_
        refine lv_aload_n hx hb dX2_readUnit_43 rfl (lv_at hl 1 rfl) ?_
        refine kk_get (ci := 2) (v := .ref aW) (C := RX2) (T := TX2) (N := 5) hx hb hts iX2 hown hK hq 0 rfl rfl 0 (by decide) lk2_ rfl dX2_readUnit_44 ?_
        refine lv_aload_n hx hb dX2_readUnit_47 rfl (lv_at hl 1 rfl) ?_
        refine kk_get (ci := 2) (v := .int waitingCount_13) (C := RX2) (T := TX2) (N := 5) hx hb hts iX2 hown hK hq 0 rfl rfl 1 (by decide) lk0_ rfl dX2_readUnit_48 ?_
        refine kk_iald hx hb hK hq 1 0 rfl rfl waitingCount_13.toNatClampNeg (kk_cl (by assumption)) (kk_clt (by assumption) hw6) (by decide) dX2_readUnit_51 ?_
        refine kk_Vv (As := [.int (u_4.2.2.1 waitingCount_13.toNatClampNeg)]) (rest := []) (wr := [(aR, .inr (2, [.ref aW, .int waitingCount_13, .ref aT, .ref aL, .int u_4.2.1])), (aW, .inl (cW, 60, .inl u_4.2.2.1)), (aT, .inr (5, [.ref aS, .int T_length])), (aS, .inl (cS, 60, .inl fS))]) ⟨hx, hb, hml, hown, hts⟩ (c_X1_addSign l G aL aP rL_values cP (u_4.2.2.1 waitingCount_13.toNatClampNeg) cn u_4.2.2.2.2.1 L_top pf (by assumption) (by assumption)) (kk_cwV 1 hts hsb wd_205 wd_206 wd_207 wd_21 wd_208 rfl rfl hd_X1_addSign ⟨by dsimp only [headSpec]; omega, by dsimp only [headSpec]; omega⟩) hA hK hq [4, 5] [0, 1, 2, 3] [2] rfl rfl rfl (by decide) (by decide) (by decide) 0 1 rfl rfl rfl rfl hl.1 rfl (Nat.le_of_ble_eq_true rfl) dX2_readUnit_52 ⟨Nat.zero_le _, Nat.zero_le _⟩ (fun u_14 H locs h_16 hq => ?_)
        obtain ⟨eu_14, k0_u_14, k1_u_14⟩ := h_16
        have hq : kAt G A s [(aR, .inr (2, [.ref aW, .int waitingCount_13, .ref aT, .ref aL, .int u_4.2.1])), (aW, .inl (cW, 60, .inl u_4.2.2.1)), (aT, .inr (5, [.ref aS, .int T_length])), (aS, .inl (cS, 60, .inl fS)), (aL, .inr (1, [.ref aP, .int u_14.1, .int u_4.2.2.2.2.1, .ref rL_values, .int L_top])), (aP, .inl (cP, 60, .inl u_14.2))] H locs := hq
        refine lv_goto (tgt := 14) hx hb dX2_readUnit_55 (by decide) ?_
        exact ih waitingCount_13 u_14.1 u_14.2 _ _ _ ⟨(hrel.trans ((if_neg c_7).trans ((if_neg c_10).trans ((congrArg (fun (waitingCount_13 : Int32) => ((let u_10 : Int32 × (Nat → Int32) := fX1_addSign (u_4.2.2.1 waitingCount_13.toNatClampNeg) cn pf
    lpX2_readUnit_14 R_waitingCount u_4 N waitingCount_13 u_10.1 u_10.2) : Int32 × Int32 × (Nat → Int32))) ewaitingCount_13.symm).trans ((congrArg (fun (u_14 : Int32 × (Nat → Int32)) => ((lpX2_readUnit_14 R_waitingCount u_4 N waitingCount_13 u_14.1 u_14.2) : Int32 × Int32 × (Nat → Int32))) eu_14.symm)))))), (by assumption), (by assumption), (by assumption), (by assumption), (by rw [ewaitingCount_13]; have := kk_dec (x := wc) (by omega); omega), lv_sub hl [0, 1, 2] rfl, hq⟩
