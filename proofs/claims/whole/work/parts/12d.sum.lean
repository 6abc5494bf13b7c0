theorem hd_X2_readTerm : yX2_readTerm.cls = RX2 ∧ yX2_readTerm.cls ≠ "java/lang/invoke/MethodHandle" ∧ yX2_readTerm.cls ≠ "java/lang/invoke/VarHandle" ∧ (parseMethodDescriptor yX2_readTerm.desc).map (fun d => d.parameters.length) = some 1 := by decide +kernel
def lpX2_readSum_12 (T_length : Int32) (fS : Nat → Int32) (inn : Int32 → Int32 → (Nat → Int32) → Int32 → Int32 → (Nat → Int32) → Int32 × Int32 × (Nat → Int32) × Int32 × Int32 × (Nat → Int32)) : Nat → Int32 → Int32 → Int32 → Int32 → (Nat → Int32) → Int32 → Int32 → (Nat → Int32) → Int32 × Int32 × Int32 × Int32 × (Nat → Int32) × Int32 × Int32 × (Nat → Int32)
  | 0, _, _, _, _, _, _, _, _ => (0, 0, 0, 0, fun _ => 0, 0, 0, fun _ => 0)
  | N + 1, i, sg, wc, at_, wf, cn, fl, pf =>
    if 60 ≤ i then (
    (i, sg, wc, at_, wf, cn, fl, pf))
    else (
    if sg = 43 then (
    let at_9 : Int32 := at_ + 1
    let u_10 : Int32 × Int32 × (Nat → Int32) × Int32 × Int32 × (Nat → Int32) := fX2_readTerm inn wc at_9 wf T_length fS cn fl pf
    let u_13 : Int32 × (Nat → Int32) := fX1_addSign sg u_10.2.2.2.1 u_10.2.2.2.2.2
    let r_17 : Int32 := (fX2_nextSign u_10.2.1 T_length fS u_10.2.2.2.2.1).1
    let u_16 : Int32 := (fX2_nextSign u_10.2.1 T_length fS u_10.2.2.2.2.1).2
    lpX2_readSum_12 T_length fS inn N (i + 1) r_17 u_10.1 u_16 u_10.2.2.1 u_13.1 u_10.2.2.2.2.1 u_13.2)
    else (
    if sg = 45 then (
    let at_20 : Int32 := at_ + 1
    let u_21 : Int32 × Int32 × (Nat → Int32) × Int32 × Int32 × (Nat → Int32) := fX2_readTerm inn wc at_20 wf T_length fS cn fl pf
    let u_24 : Int32 × (Nat → Int32) := fX1_addSign sg u_21.2.2.2.1 u_21.2.2.2.2.2
    let r_28 : Int32 := (fX2_nextSign u_21.2.1 T_length fS u_21.2.2.2.2.1).1
    let u_27 : Int32 := (fX2_nextSign u_21.2.1 T_length fS u_21.2.2.2.2.1).2
    lpX2_readSum_12 T_length fS inn N (i + 1) r_28 u_21.1 u_27 u_21.2.2.1 u_24.1 u_21.2.2.2.2.1 u_24.2)
    else (
    (i, sg, wc, at_, wf, cn, fl, pf))))

def fX2_readSum (inn : Int32 → Int32 → (Nat → Int32) → Int32 → Int32 → (Nat → Int32) → Int32 × Int32 × (Nat → Int32) × Int32 × Int32 × (Nat → Int32)) (R_waitingCount : Int32) (R_at : Int32) (fW : Nat → Int32) (T_length : Int32) (fS : Nat → Int32) (L_count : Int32) (L_fault : Int32) (fP : Nat → Int32) : Int32 × Int32 × (Nat → Int32) × Int32 × Int32 × (Nat → Int32) :=
  let u_1 : Int32 × Int32 × (Nat → Int32) × Int32 × Int32 × (Nat → Int32) := fX2_readTerm inn R_waitingCount R_at fW T_length fS L_count L_fault fP
  let r_5 : Int32 := (fX2_nextSign u_1.2.1 T_length fS u_1.2.2.2.2.1).1
  let u_4 : Int32 := (fX2_nextSign u_1.2.1 T_length fS u_1.2.2.2.2.1).2
  let z_23 : Int32 × Int32 × Int32 × Int32 × (Nat → Int32) × Int32 × Int32 × (Nat → Int32) := lpX2_readSum_12 T_length fS inn (61) 0 r_5 u_1.1 u_4 u_1.2.2.1 u_1.2.2.2.1 u_1.2.2.2.2.1 u_1.2.2.2.2.2
  (z_23.2.2.1, z_23.2.2.2.1, z_23.2.2.2.2.1, z_23.2.2.2.2.2.1, z_23.2.2.2.2.2.2.1, z_23.2.2.2.2.2.2.2)

set_option maxHeartbeats 4000000 in
set_option maxRecDepth 100000 in
theorem c_X2_readSum (l : Launch) (G : va_G) (aR aW aT aS aL aP rL_values : Nat) (cW cS cP : ClassId) (F Q : Nat) (p1 : Int32) (R_waitingCount : Int32) (R_at : Int32) (fW : Nat → Int32) (T_length : Int32) (fS : Nat → Int32) (L_count : Int32) (L_fault : Int32) (L_top : Int32) (fP : Nat → Int32) (inn : Int32 → Int32 → (Nat → Int32) → Int32 → Int32 → (Nat → Int32) → Int32 × Int32 × (Nat → Int32) × Int32 × Int32 × (Nat → Int32)) (q0 : 0 ≤ R_at.toInt) (q1 : R_at.toInt ≤ 60) (n1 : T_length.toInt ≤ 60) (w0 : 0 ≤ R_waitingCount.toInt) (w1 : R_waitingCount.toInt ≤ 60) (k0 : 0 ≤ L_count.toInt) (k1 : L_count.toInt ≤ 60) (hI : hy_inner l G aR aW aT aS aL aP rL_values cW cS cP F Q p1 T_length fS inn) : kCv l yX2_readSum (Cond.code yX2_readSum cX2_readSum 4 none :: wsL_law) ({ frames := F + 6, cells := 0, slots := 0, locals := Q + 132 }) G [(cW, .int), (cS, .int), (cP, .int)] [.ref aR, .int p1] [(aR, .inr (2, [.ref aW, .int R_waitingCount, .ref aT, .ref aL, .int R_at])), (aW, .inl (cW, 60, .inl fW)), (aT, .inr (5, [.ref aS, .int T_length])), (aS, .inl (cS, 60, .inl fS)), (aL, .inr (1, [.ref aP, .int L_count, .int L_fault, .ref rL_values, .int L_top])), (aP, .inl (cP, 60, .inl fP))] (fun (u : Int32 × Int32 × (Nat → Int32) × Int32 × Int32 × (Nat → Int32)) => u = fX2_readSum inn R_waitingCount R_at fW T_length fS L_count L_fault fP ∧ (0 ≤ u.2.1.toInt) ∧ (u.2.1.toInt ≤ 60) ∧ (0 ≤ u.1.toInt) ∧ (u.1.toInt ≤ 60) ∧ (0 ≤ u.2.2.2.1.toInt) ∧ (u.2.2.2.1.toInt ≤ 60)) (fun (u : Int32 × Int32 × (Nat → Int32) × Int32 × Int32 × (Nat → Int32)) => [(aR, .inr (2, [.ref aW, .int u.1, .ref aT, .ref aL, .int u.2.1])), (aW, .inl (cW, 60, .inl u.2.2.1)), (aT, .inr (5, [.ref aS, .int T_length])), (aS, .inl (cS, 60, .inl fS)), (aL, .inr (1, [.ref aP, .int u.2.2.2.1, .int u.2.2.2.2.1, .ref rL_values, .int L_top])), (aP, .inl (cP, 60, .inl u.2.2.2.2.2))]) := by
  intro sz
  refine Met.ofW (cc := cX2_readSum) (maxL := 4) (ret := none) (by decide) rfl ?_
  intro p e s m args below meth c s₁ B hml hv
  obtain ⟨rfl, hv⟩ := hv
  obtain ⟨rfl, hK, hq, hA⟩ := kk_begin hv
  have hx := B.exec
  have hb := B.bytes
  have hr := B.returns
  have hts := atoms_spec (ws := (Cond.code yX2_readSum cX2_readSum 4 none :: wsL_law)) B.pre
  have hown : s.vm.findClass RX2 = some m.cls := findClass_of_methodNamed B.named
  have hlocks := B.notSynchronized
  have hsb : ∀ w ∈ wsL_law, w ∈ (Cond.code yX2_readSum cX2_readSum 4 none :: wsL_law) := fun _ h => List.mem_cons_of_mem _ h
  generalize va_A [(aR, .inr (2, [.ref aW, .int R_waitingCount, .ref aT, .ref aL, .int R_at])), (aW, .inl (cW, 60, .inl fW)), (aT, .inr (5, [.ref aS, .int T_length])), (aS, .inl (cS, 60, .inl fS)), (aL, .inr (1, [.ref aP, .int L_count, .int L_fault, .ref rL_values, .int L_top])), (aP, .inl (cP, 60, .inl fP))] s.heap.size = A at hq hA ⊢
  have iX2 : ∀ w ∈ u_ws RX2 TX2 5, w ∈ (Cond.code yX2_readSum cX2_readSum 4 none :: wsL_law) := fun w h => hsb w (bin_X2 w h)
  have lk0_ := hts _ (hsb _ wd_110)
  have lk1_ := hts _ (hsb _ wd_112)
  have hl := lv_entry ([.ref aR, .int p1]) (n := 4) (Nat.le_of_ble_eq_true rfl)
  rw [lg_entry_eq]
  generalize (lg_sl ([.ref aR, .int p1]) ++ List.replicate (4 - (lg_sl ([.ref aR, .int p1])).length) Slot.unset).toArray = ls at hl ⊢
  have hl : lv_has ls 4 [(0, .ref aR), (1, .int p1)] := hl
  refine lv_aload_n hx hb dX2_readSum_0 rfl (lv_at hl 0 rfl) ?_
  refine lv_iload_n hx hb dX2_readSum_1 rfl (lv_at hl 1 rfl) ?_
  refine kk_Vv (As := [.int p1]) (rest := []) (wr := []) ⟨hx, hb, hml, hown, hts⟩ (c_X2_readTerm l G aR aW aT aS aL aP rL_values cW cS cP F Q p1 R_waitingCount R_at fW T_length fS L_count L_fault L_top fP inn (by assumption) (by assumption) (by assumption) (by assumption) (by assumption) (by assumption) (by assumption) (by assumption)) (kk_cwV 1 hts hsb wd_245 wd_246 wd_247 wd_25 wd_248 rfl rfl hd_X2_readTerm ⟨by dsimp only [headSpec]; omega, by dsimp only [headSpec]; omega⟩) hA hK hq [0, 1, 2, 3, 4, 5] [] [0, 1, 2] rfl rfl rfl (by decide) (by decide) (by decide) 0 2 rfl rfl rfl rfl hl.1 rfl (Nat.le_of_ble_eq_true rfl) dX2_readSum_2 ⟨Nat.zero_le _, Nat.zero_le _⟩ (fun u_1 H locs h_3 hq => ?_)
  obtain ⟨eu_1, q0_u_1, q1_u_1, w0_u_1, w1_u_1, k0_u_1, k1_u_1⟩ := h_3
  have hq : kAt G A s [(aR, .inr (2, [.ref aW, .int u_1.1, .ref aT, .ref aL, .int u_1.2.1])), (aW, .inl (cW, 60, .inl u_1.2.2.1)), (aT, .inr (5, [.ref aS, .int T_length])), (aS, .inl (cS, 60, .inl fS)), (aL, .inr (1, [.ref aP, .int u_1.2.2.2.1, .int u_1.2.2.2.2.1, .ref rL_values, .int L_top])), (aP, .inl (cP, 60, .inl u_1.2.2.2.2.2))] H locs := hq
  refine lv_aload_n hx hb dX2_readSum_5 rfl (lv_at hl 0 rfl) ?_
  refine kk_Vi (As := []) (rest := []) (wr := [(aW, .inl (cW, 60, .inl u_1.2.2.1)), (aP, .inl (cP, 60, .inl u_1.2.2.2.2.2))]) ⟨hx, hb, hml, hown, hts⟩ (c_X2_nextSign l G aR aT aS aL aW aP rL_values cS u_1.1 u_1.2.1 T_length fS u_1.2.2.2.1 u_1.2.2.2.2.1 L_top (by assumption) (by assumption) (by assumption)) (kk_cwV 0 hts hsb wd_195 wd_196 wd_197 wd_25 wd_198 rfl rfl hd_X2_nextSign ⟨by dsimp only [headSpec]; omega, by dsimp only [headSpec]; omega⟩) hA hK hq [0, 2, 3, 4] [1, 5] [1] rfl rfl rfl (by decide) (by decide) (by decide) 0 2 rfl rfl rfl rfl hl.1 rfl (Nat.le_of_ble_eq_true rfl) dX2_readSum_6 ⟨Nat.zero_le _, Nat.zero_le _⟩ (fun r_5 u_4 H locs h_6 hq => ?_)
  obtain ⟨er_5, eu_4, q0_u_4, q1_u_4, nx_u_4⟩ := h_6
  have hq : kAt G A s [(aW, .inl (cW, 60, .inl u_1.2.2.1)), (aP, .inl (cP, 60, .inl u_1.2.2.2.2.2)), (aR, .inr (2, [.ref aW, .int u_1.1, .ref aT, .ref aL, .int u_4])), (aT, .inr (5, [.ref aS, .int T_length])), (aS, .inl (cS, 60, .inl fS)), (aL, .inr (1, [.ref aP, .int u_1.2.2.2.1, .int u_1.2.2.2.2.1, .ref rL_values, .int L_top]))] H locs := hq
  refine lv_istore_n (lv' := [(2, .int r_5), (0, .ref aR), (1, .int p1)]) hx hb dX2_readSum_9 rfl hl (by decide) rfl (fun ls hl => ?_)
  refine lv_iconst (v := 0) hx hb dX2_readSum_10 (by decide) ?_
  refine lv_istore_n (lv' := [(3, .int 0), (2, .int r_5), (0, .ref aR), (1, .int p1)]) hx hb dX2_readSum_11 rfl hl (by decide) rfl (fun ls hl => ?_)
  refine kk_loop8 (fun N (i : Int32) (sg : Int32) (wc : Int32) (at_ : Int32) (wf : Nat → Int32) (cn : Int32) (fl : Int32) (pf : Nat → Int32) (H : Heap) (locs : List Loc) (ls : Array Slot) => lpX2_readSum_12 T_length fS inn (61) 0 r_5 u_1.1 u_4 u_1.2.2.1 u_1.2.2.2.1 u_1.2.2.2.2.1 u_1.2.2.2.2.2 = lpX2_readSum_12 T_length fS inn N i sg wc at_ wf cn fl pf ∧ (0 ≤ i.toInt) ∧ (i.toInt ≤ 60) ∧ (i.toInt + N = 61) ∧ (0 ≤ at_.toInt) ∧ (at_.toInt ≤ 60) ∧ (0 ≤ wc.toInt) ∧ (wc.toInt ≤ 60) ∧ (0 ≤ cn.toInt) ∧ (cn.toInt ≤ 60) ∧ (sg = -1 ∨ at_.toInt < 60) ∧ lv_has ls 4 [(3, .int i), (2, .int sg), (0, .ref aR), (1, .int p1)] ∧ kAt G A s [(aW, .inl (cW, 60, .inl wf)), (aP, .inl (cP, 60, .inl pf)), (aR, .inr (2, [.ref aW, .int wc, .ref aT, .ref aL, .int at_])), (aT, .inr (5, [.ref aS, .int T_length])), (aS, .inl (cS, 60, .inl fS)), (aL, .inr (1, [.ref aP, .int cn, .int fl, .ref rL_values, .int L_top]))] H locs) 12 (fun i sg wc at_ wf cn fl pf => []) (fun i sg wc at_ wf cn fl pf H locs ls hv => ?_) (fun N i sg wc at_ wf cn fl pf H locs ls ih hv => ?_) (61) 0 r_5 u_1.1 u_4 u_1.2.2.1 u_1.2.2.2.1 u_1.2.2.2.2.1 u_1.2.2.2.2.2 _ _ _ ⟨rfl, (by decide), (by decide), (by decide), (by assumption), (by assumption), (by assumption), (by assumption), (by assumption), (by assumption), (by assumption), lv_sub hl [0, 1, 2, 3] rfl, hq⟩
  · skip
    obtain ⟨hrel, i0, i1, hN, ap0, ap1, v0, v1, d0, d1, nx, hl, hq⟩ := hv
    omega
  · skip
    obtain ⟨hrel, i0, i1, hN, ap0, ap1, v0, v1, d0, d1, nx, hl, hq⟩ := hv
    refine lv_iload_n hx hb dX2_readSum_12 rfl (lv_at hl 0 rfl) ?_
    refine lv_bipush (v := 60) hx hb dX2_readSum_13 (by decide) ?_
    refine lv_icmp_ge (tgt := 64) hx hb dX2_readSum_15 (by decide) (fun c_7 => ?_) (fun c_7 => ?_)
    · skip
      have hx_8 : ((i, sg, wc, at_, wf, cn, fl, pf) : Int32 × Int32 × Int32 × Int32 × (Nat → Int32) × Int32 × Int32 × (Nat → Int32)) = lpX2_readSum_12 T_length fS inn (61) 0 r_5 u_1.1 u_4 u_1.2.2.1 u_1.2.2.2.1 u_1.2.2.2.2.1 u_1.2.2.2.2.2 := (hrel.trans ((if_pos c_7))).symm
      obtain ⟨z_9, gz_9⟩ : ∃ z : Int32 × Int32 × Int32 × Int32 × (Nat → Int32) × Int32 × Int32 × (Nat → Int32), z = (i, sg, wc, at_, wf, cn, fl, pf) := ⟨_, rfl⟩
      have ez_9 : z_9 = lpX2_readSum_12 T_length fS inn (61) 0 r_5 u_1.1 u_4 u_1.2.2.1 u_1.2.2.2.1 u_1.2.2.2.2.1 u_1.2.2.2.2.2 := gz_9.trans hx_8
      have hl : lv_has ls 4 [(3, .int z_9.1), (2, .int z_9.2.1), (0, .ref aR), (1, .int p1)] := by subst gz_9; exact hl
      have hq : kAt G A s [(aW, .inl (cW, 60, .inl z_9.2.2.2.2.1)), (aP, .inl (cP, 60, .inl z_9.2.2.2.2.2.2.2)), (aR, .inr (2, [.ref aW, .int z_9.2.2.1, .ref aT, .ref aL, .int z_9.2.2.2.1])), (aT, .inr (5, [.ref aS, .int T_length])), (aS, .inl (cS, 60, .inl fS)), (aL, .inr (1, [.ref aP, .int z_9.2.2.2.2.2.1, .int z_9.2.2.2.2.2.2.1, .ref rL_values, .int L_top]))] H locs := by subst gz_9; exact hq
      have q0f : 0 ≤ z_9.2.2.2.1.toInt := by subst gz_9; assumption
      have q1f : z_9.2.2.2.1.toInt ≤ 60 := by subst gz_9; assumption
      have w0f : 0 ≤ z_9.2.2.1.toInt := by subst gz_9; assumption
      have w1f : z_9.2.2.1.toInt ≤ 60 := by subst gz_9; assumption
      have k0f : 0 ≤ z_9.2.2.2.2.2.1.toInt := by subst gz_9; assumption
      have k1f : z_9.2.2.2.2.2.1.toInt ≤ 60 := by subst gz_9; assumption
      have hf : ((z_9.2.2.1, z_9.2.2.2.1, z_9.2.2.2.2.1, z_9.2.2.2.2.2.1, z_9.2.2.2.2.2.2.1, z_9.2.2.2.2.2.2.2) : Int32 × Int32 × (Nat → Int32) × Int32 × Int32 × (Nat → Int32)) = fX2_readSum inn R_waitingCount R_at fW T_length fS L_count L_fault fP := by
        exact ((congrArg (fun (u_1 : Int32 × Int32 × (Nat → Int32) × Int32 × Int32 × (Nat → Int32)) => ((let r_5 : Int32 := (fX2_nextSign u_1.2.1 T_length fS u_1.2.2.2.2.1).1
  let u_4 : Int32 := (fX2_nextSign u_1.2.1 T_length fS u_1.2.2.2.2.1).2
  let z_23 : Int32 × Int32 × Int32 × Int32 × (Nat → Int32) × Int32 × Int32 × (Nat → Int32) := lpX2_readSum_12 T_length fS inn (61) 0 r_5 u_1.1 u_4 u_1.2.2.1 u_1.2.2.2.1 u_1.2.2.2.2.1 u_1.2.2.2.2.2
  (z_23.2.2.1, z_23.2.2.2.1, z_23.2.2.2.2.1, z_23.2.2.2.2.2.1, z_23.2.2.2.2.2.2.1, z_23.2.2.2.2.2.2.2)) : Int32 × Int32 × (Nat → Int32) × Int32 × Int32 × (Nat → Int32))) eu_1.symm).trans ((congrArg (fun (r_5 : Int32) => ((let u_4 : Int32 := (fX2_nextSign u_1.2.1 T_length fS u_1.2.2.2.2.1).2
  let z_23 : Int32 × Int32 × Int32 × Int32 × (Nat → Int32) × Int32 × Int32 × (Nat → Int32) := lpX2_readSum_12 T_length fS inn (61) 0 r_5 u_1.1 u_4 u_1.2.2.1 u_1.2.2.2.1 u_1.2.2.2.2.1 u_1.2.2.2.2.2
  (z_23.2.2.1, z_23.2.2.2.1, z_23.2.2.2.2.1, z_23.2.2.2.2.2.1, z_23.2.2.2.2.2.2.1, z_23.2.2.2.2.2.2.2)) : Int32 × Int32 × (Nat → Int32) × Int32 × Int32 × (Nat → Int32))) er_5.symm).trans ((congrArg (fun (u_4 : Int32) => ((let z_23 : Int32 × Int32 × Int32 × Int32 × (Nat → Int32) × Int32 × Int32 × (Nat → Int32) := lpX2_readSum_12 T_length fS inn (61) 0 r_5 u_1.1 u_4 u_1.2.2.1 u_1.2.2.2.1 u_1.2.2.2.2.1 u_1.2.2.2.2.2
  (z_23.2.2.1, z_23.2.2.2.1, z_23.2.2.2.2.1, z_23.2.2.2.2.2.1, z_23.2.2.2.2.2.2.1, z_23.2.2.2.2.2.2.2)) : Int32 × Int32 × (Nat → Int32) × Int32 × Int32 × (Nat → Int32))) eu_4.symm).trans ((congrArg (fun (z_9 : Int32 × Int32 × Int32 × Int32 × (Nat → Int32) × Int32 × Int32 × (Nat → Int32)) => (((z_9.2.2.1, z_9.2.2.2.1, z_9.2.2.2.2.1, z_9.2.2.2.2.2.1, z_9.2.2.2.2.2.2.1, z_9.2.2.2.2.2.2.2)) : Int32 × Int32 × (Nat → Int32) × Int32 × Int32 × (Nat → Int32))) ez_9.symm))))).symm
      have en_0 : 0 ≤ z_9.2.2.2.1.toInt := by first | assumption | omega
      have en_1 : z_9.2.2.2.1.toInt ≤ 60 := by first | assumption | omega
      have en_2 : 0 ≤ z_9.2.2.1.toInt := by first | assumption | omega
      have en_3 : z_9.2.2.1.toInt ≤ 60 := by first | assumption | omega
      have en_4 : 0 ≤ z_9.2.2.2.2.2.1.toInt := by first | assumption | omega
      have en_5 : z_9.2.2.2.2.2.1.toInt ≤ 60 := by first | assumption | omega
      exact kk_ev hx hb hr hlocks hK hq [2, 0, 3, 4, 5, 1] (z_9.2.2.1, z_9.2.2.2.1, z_9.2.2.2.2.1, z_9.2.2.2.2.2.1, z_9.2.2.2.2.2.2.1, z_9.2.2.2.2.2.2.2) rfl (by decide) dX2_readSum_64 ⟨hf, en_0, en_1, en_2, en_3, en_4, en_5⟩
    · skip
      have hi6 := kk_nle (k := 60) rfl c_7
      refine lv_iload_n hx hb dX2_readSum_18 rfl (lv_at hl 1 rfl) ?_
      refine lv_bipush (v := 43) hx hb dX2_readSum_19 (by decide) ?_
      refine lv_icmp_eq (tgt := 30) hx hb dX2_readSum_21 (by decide) (fun c_10 => ?_) (fun c_10 => ?_)
      · skip
        have hlt := nx_use nx c_10 (by decide)
        refine lv_aload_n hx hb dX2_readSum_30 rfl (lv_at hl 2 rfl) ?_
        refine lv_dup hx hb dX2_readSum_31 rfl ?_
        refine kk_get (ci := 2) (v := .int at_) (C := RX2) (T := TX2) (N := 5) hx hb hts iX2 hown hK hq 2 rfl rfl 4 (by decide) lk0_ rfl dX2_readSum_32 ?_
        refine lv_iconst (v := 1) hx hb dX2_readSum_35 (by decide) ?_
        refine lv_iadd hx hb dX2_readSum_36 ?_
        refine lv_topi (fun at_11 eat_11 => ?_)
        refine kk_put (ws' := [(aW, .inl (cW, 60, .inl wf)), (aP, .inl (cP, 60, .inl pf)), (aR, .inr (2, [.ref aW, .int wc, .ref aT, .ref aL, .int at_11])), (aT, .inr (5, [.ref aS, .int T_length])), (aS, .inl (cS, 60, .inl fS)), (aL, .inr (1, [.ref aP, .int cn, .int fl, .ref rL_values, .int L_top]))]) (ci := 2) (v := .int at_11) (C := RX2) (T := TX2) (N := 5) hx hb hts iX2 tyX2_ok nmX2 hown hK hq 2 rfl rfl 4 (by decide) lk0_ rfl rfl rfl (Nat.le_of_ble_eq_true rfl) dX2_readSum_37 rfl (fun H locs hq => ?_)
        have hat_11 := at_inc eat_11 (by assumption) hlt
        have q0at_11 : 0 ≤ at_11.toInt := hat_11.1
        have q1at_11 : at_11.toInt ≤ 60 := hat_11.2
        refine lv_aload_n hx hb dX2_readSum_40 rfl (lv_at hl 2 rfl) ?_
        refine lv_iload_n hx hb dX2_readSum_41 rfl (lv_at hl 3 rfl) ?_
        refine kk_Vv (As := [.int p1]) (rest := []) (wr := []) ⟨hx, hb, hml, hown, hts⟩ (c_X2_readTerm l G aR aW aT aS aL aP rL_values cW cS cP F Q p1 wc at_11 wf T_length fS cn fl L_top pf inn (by assumption) (by assumption) (by assumption) (by assumption) (by assumption) (by assumption) (by assumption) (by assumption)) (kk_cwV 1 hts hsb wd_245 wd_246 wd_247 wd_25 wd_248 rfl rfl hd_X2_readTerm ⟨by dsimp only [headSpec]; omega, by dsimp only [headSpec]; omega⟩) hA hK hq [2, 0, 3, 4, 5, 1] [] [0, 1, 2] rfl rfl rfl (by decide) (by decide) (by decide) 0 2 rfl rfl rfl rfl hl.1 rfl (Nat.le_of_ble_eq_true rfl) dX2_readSum_42 ⟨Nat.zero_le _, Nat.zero_le _⟩ (fun u_12 H locs h_14 hq => ?_)
        obtain ⟨eu_12, q0_u_12, q1_u_12, w0_u_12, w1_u_12, k0_u_12, k1_u_12⟩ := h_14
        have hq : kAt G A s [(aR, .inr (2, [.ref aW, .int u_12.1, .ref aT, .ref aL, .int u_12.2.1])), (aW, .inl (cW, 60, .inl u_12.2.2.1)), (aT, .inr (5, [.ref aS, .int T_length])), (aS, .inl (cS, 60, .inl fS)), (aL, .inr (1, [.ref aP, .int u_12.2.2.2.1, .int u_12.2.2.2.2.1, .ref rL_values, .int L_top])), (aP, .inl (cP, 60, .inl u_12.2.2.2.2.2))] H locs := hq
        refine lv_aload_n hx hb dX2_readSum_45 rfl (lv_at hl 2 rfl) ?_
        refine kk_get (ci := 2) (v := .ref aL) (C := RX2) (T := TX2) (N := 5) hx hb hts iX2 hown hK hq 0 rfl rfl 3 (by decide) lk1_ rfl dX2_readSum_46 ?_
        refine lv_iload_n hx hb dX2_readSum_49 rfl (lv_at hl 1 rfl) ?_
        refine kk_Vv (As := [.int sg]) (rest := []) (wr := [(aR, .inr (2, [.ref aW, .int u_12.1, .ref aT, .ref aL, .int u_12.2.1])), (aW, .inl (cW, 60, .inl u_12.2.2.1)), (aT, .inr (5, [.ref aS, .int T_length])), (aS, .inl (cS, 60, .inl fS))]) ⟨hx, hb, hml, hown, hts⟩ (c_X1_addSign l G aL aP rL_values cP sg u_12.2.2.2.1 u_12.2.2.2.2.1 L_top u_12.2.2.2.2.2 (by assumption) (by assumption)) (kk_cwV 1 hts hsb wd_205 wd_206 wd_207 wd_21 wd_208 rfl rfl hd_X1_addSign ⟨by dsimp only [headSpec]; omega, by dsimp only [headSpec]; omega⟩) hA hK hq [4, 5] [0, 1, 2, 3] [2] rfl rfl rfl (by decide) (by decide) (by decide) 0 1 rfl rfl rfl rfl hl.1 rfl (Nat.le_of_ble_eq_true rfl) dX2_readSum_50 ⟨Nat.zero_le _, Nat.zero_le _⟩ (fun u_15 H locs h_17 hq => ?_)
        obtain ⟨eu_15, k0_u_15, k1_u_15⟩ := h_17
        have hq : kAt G A s [(aR, .inr (2, [.ref aW, .int u_12.1, .ref aT, .ref aL, .int u_12.2.1])), (aW, .inl (cW, 60, .inl u_12.2.2.1)), (aT, .inr (5, [.ref aS, .int T_length])), (aS, .inl (cS, 60, .inl fS)), (aL, .inr (1, [.ref aP, .int u_15.1, .int u_12.2.2.2.2.1, .ref rL_values, .int L_top])), (aP, .inl (cP, 60, .inl u_15.2))] H locs := hq
        refine lv_aload_n hx hb dX2_readSum_53 rfl (lv_at hl 2 rfl) ?_
        refine kk_Vi (As := []) (rest := []) (wr := [(aW, .inl (cW, 60, .inl u_12.2.2.1)), (aP, .inl (cP, 60, .inl u_15.2))]) ⟨hx, hb, hml, hown, hts⟩ (c_X2_nextSign l G aR aT aS aL aW aP rL_values cS u_12.1 u_12.2.1 T_length fS u_15.1 u_12.2.2.2.2.1 L_top (by assumption) (by assumption) (by assumption)) (kk_cwV 0 hts hsb wd_195 wd_196 wd_197 wd_25 wd_198 rfl rfl hd_X2_nextSign ⟨by dsimp only [headSpec]; omega, by dsimp only [headSpec]; omega⟩) hA hK hq [0, 2, 3, 4] [1, 5] [1] rfl rfl rfl (by decide) (by decide) (by decide) 0 2 rfl rfl rfl rfl hl.1 rfl (Nat.le_of_ble_eq_true rfl) dX2_readSum_54 ⟨Nat.zero_le _, Nat.zero_le _⟩ (fun r_19 u_18 H locs h_20 hq => ?_)
        obtain ⟨er_19, eu_18, q0_u_18, q1_u_18, nx_u_18⟩ := h_20
        have hq : kAt G A s [(aW, .inl (cW, 60, .inl u_12.2.2.1)), (aP, .inl (cP, 60, .inl u_15.2)), (aR, .inr (2, [.ref aW, .int u_12.1, .ref aT, .ref aL, .int u_18])), (aT, .inr (5, [.ref aS, .int T_length])), (aS, .inl (cS, 60, .inl fS)), (aL, .inr (1, [.ref aP, .int u_15.1, .int u_12.2.2.2.2.1, .ref rL_values, .int L_top]))] H locs := hq
        refine lv_istore_n (lv' := [(2, .int r_19), (3, .int i), (0, .ref aR), (1, .int p1)]) hx hb dX2_readSum_57 rfl hl (by decide) rfl (fun ls hl => ?_)
        refine lv_iinc (v := i + 1) (lv' := [(3, .int (i + 1)), (2, .int r_19), (0, .ref aR), (1, .int p1)]) hx hb dX2_readSum_58 hl (k := 1) rfl rfl (by decide) rfl (fun ls hl => ?_)
        refine lv_goto (tgt := 12) hx hb dX2_readSum_61 (by decide) ?_
        exact ih (i + 1) r_19 u_12.1 u_18 u_12.2.2.1 u_15.1 u_12.2.2.2.2.1 u_15.2 _ _ _ ⟨(hrel.trans ((if_neg c_7).trans ((if_pos c_10).trans ((congrArg (fun (at_11 : Int32) => ((let u_10 : Int32 × Int32 × (Nat → Int32) × Int32 × Int32 × (Nat → Int32) := fX2_readTerm inn wc at_11 wf T_length fS cn fl pf
    let u_13 : Int32 × (Nat → Int32) := fX1_addSign sg u_10.2.2.2.1 u_10.2.2.2.2.2
    let r_17 : Int32 := (fX2_nextSign u_10.2.1 T_length fS u_10.2.2.2.2.1).1
    let u_16 : Int32 := (fX2_nextSign u_10.2.1 T_length fS u_10.2.2.2.2.1).2
    lpX2_readSum_12 T_length fS inn N (i + 1) r_17 u_10.1 u_16 u_10.2.2.1 u_13.1 u_10.2.2.2.2.1 u_13.2) : Int32 × Int32 × Int32 × Int32 × (Nat → Int32) × Int32 × Int32 × (Nat → Int32))) eat_11.symm).trans ((congrArg (fun (u_12 : Int32 × Int32 × (Nat → Int32) × Int32 × Int32 × (Nat → Int32)) => ((let u_13 : Int32 × (Nat → Int32) := fX1_addSign sg u_12.2.2.2.1 u_12.2.2.2.2.2
    let r_17 : Int32 := (fX2_nextSign u_12.2.1 T_length fS u_12.2.2.2.2.1).1
    let u_16 : Int32 := (fX2_nextSign u_12.2.1 T_length fS u_12.2.2.2.2.1).2
    lpX2_readSum_12 T_length fS inn N (i + 1) r_17 u_12.1 u_16 u_12.2.2.1 u_13.1 u_12.2.2.2.2.1 u_13.2) : Int32 × Int32 × Int32 × Int32 × (Nat → Int32) × Int32 × Int32 × (Nat → Int32))) eu_12.symm).trans ((congrArg (fun (u_15 : Int32 × (Nat → Int32)) => ((let r_17 : Int32 := (fX2_nextSign u_12.2.1 T_length fS u_12.2.2.2.2.1).1
    let u_16 : Int32 := (fX2_nextSign u_12.2.1 T_length fS u_12.2.2.2.2.1).2
    lpX2_readSum_12 T_length fS inn N (i + 1) r_17 u_12.1 u_16 u_12.2.2.1 u_15.1 u_12.2.2.2.2.1 u_15.2) : Int32 × Int32 × Int32 × Int32 × (Nat → Int32) × Int32 × Int32 × (Nat → Int32))) eu_15.symm).trans ((congrArg (fun (r_19 : Int32) => ((let u_16 : Int32 := (fX2_nextSign u_12.2.1 T_length fS u_12.2.2.2.2.1).2
    lpX2_readSum_12 T_length fS inn N (i + 1) r_19 u_12.1 u_16 u_12.2.2.1 u_15.1 u_12.2.2.2.2.1 u_15.2) : Int32 × Int32 × Int32 × Int32 × (Nat → Int32) × Int32 × Int32 × (Nat → Int32))) er_19.symm).trans ((congrArg (fun (u_18 : Int32) => ((lpX2_readSum_12 T_length fS inn N (i + 1) r_19 u_12.1 u_18 u_12.2.2.1 u_15.1 u_12.2.2.2.2.1 u_15.2) : Int32 × Int32 × Int32 × Int32 × (Nat → Int32) × Int32 × Int32 × (Nat → Int32))) eu_18.symm))))))))), (by have := kk_inc (x := i) (by omega); omega), (by have := kk_inc (x := i) (by omega); omega), (by have := kk_inc (x := i) (by omega); omega), (by assumption), (by assumption), (by assumption), (by assumption), (by assumption), (by assumption), (by assumption), lv_sub hl [0, 1, 2, 3] rfl, hq⟩
      · skip
        refine lv_iload_n hx hb dX2_readSum_24 rfl (lv_at hl 1 rfl) ?_
        refine lv_bipush (v := 45) hx hb dX2_readSum_25 (by decide) ?_
        refine lv_icmp_ne (tgt := 64) hx hb dX2_readSum_27 (by decide) (fun c_21 => ?_) (fun c_21 => ?_)
        · skip
          have hx_22 : ((i, sg, wc, at_, wf, cn, fl, pf) : Int32 × Int32 × Int32 × Int32 × (Nat → Int32) × Int32 × Int32 × (Nat → Int32)) = lpX2_readSum_12 T_length fS inn (61) 0 r_5 u_1.1 u_4 u_1.2.2.1 u_1.2.2.2.1 u_1.2.2.2.2.1 u_1.2.2.2.2.2 := (hrel.trans ((if_neg c_7).trans ((if_neg c_10).trans ((if_neg c_21))))).symm
          obtain ⟨z_23, gz_23⟩ : ∃ z : Int32 × Int32 × Int32 × Int32 × (Nat → Int32) × Int32 × Int32 × (Nat → Int32), z = (i, sg, wc, at_, wf, cn, fl, pf) := ⟨_, rfl⟩
          have ez_23 : z_23 = lpX2_readSum_12 T_length fS inn (61) 0 r_5 u_1.1 u_4 u_1.2.2.1 u_1.2.2.2.1 u_1.2.2.2.2.1 u_1.2.2.2.2.2 := gz_23.trans hx_22
          have hl : lv_has ls 4 [(3, .int z_23.1), (2, .int z_23.2.1), (0, .ref aR), (1, .int p1)] := by subst gz_23; exact hl
          have hq : kAt G A s [(aW, .inl (cW, 60, .inl z_23.2.2.2.2.1)), (aP, .inl (cP, 60, .inl z_23.2.2.2.2.2.2.2)), (aR, .inr (2, [.ref aW, .int z_23.2.2.1, .ref aT, .ref aL, .int z_23.2.2.2.1])), (aT, .inr (5, [.ref aS, .int T_length])), (aS, .inl (cS, 60, .inl fS)), (aL, .inr (1, [.ref aP, .int z_23.2.2.2.2.2.1, .int z_23.2.2.2.2.2.2.1, .ref rL_values, .int L_top]))] H locs := by subst gz_23; exact hq
          have q0f : 0 ≤ z_23.2.2.2.1.toInt := by subst gz_23; assumption
          have q1f : z_23.2.2.2.1.toInt ≤ 60 := by subst gz_23; assumption
          have w0f : 0 ≤ z_23.2.2.1.toInt := by subst gz_23; assumption
          have w1f : z_23.2.2.1.toInt ≤ 60 := by subst gz_23; assumption
          have k0f : 0 ≤ z_23.2.2.2.2.2.1.toInt := by subst gz_23; assumption
          have k1f : z_23.2.2.2.2.2.1.toInt ≤ 60 := by subst gz_23; assumption
          have hf : ((z_23.2.2.1, z_23.2.2.2.1, z_23.2.2.2.2.1, z_23.2.2.2.2.2.1, z_23.2.2.2.2.2.2.1, z_23.2.2.2.2.2.2.2) : Int32 × Int32 × (Nat → Int32) × Int32 × Int32 × (Nat → Int32)) = fX2_readSum inn R_waitingCount R_at fW T_length fS L_count L_fault fP := by
            exact ((congrArg (fun (u_1 : Int32 × Int32 × (Nat → Int32) × Int32 × Int32 × (Nat → Int32)) => ((let r_5 : Int32 := (fX2_nextSign u_1.2.1 T_length fS u_1.2.2.2.2.1).1
  let u_4 : Int32 := (fX2_nextSign u_1.2.1 T_length fS u_1.2.2.2.2.1).2
  let z_23 : Int32 × Int32 × Int32 × Int32 × (Nat → Int32) × Int32 × Int32 × (Nat → Int32) := lpX2_readSum_12 T_length fS inn (61) 0 r_5 u_1.1 u_4 u_1.2.2.1 u_1.2.2.2.1 u_1.2.2.2.2.1 u_1.2.2.2.2.2
  (z_23.2.2.1, z_23.2.2.2.1, z_23.2.2.2.2.1, z_23.2.2.2.2.2.1, z_23.2.2.2.2.2.2.1, z_23.2.2.2.2.2.2.2)) : Int32 × Int32 × (Nat → Int32) × Int32 × Int32 × (Nat → Int32))) eu_1.symm).trans ((congrArg (fun (r_5 : Int32) => ((let u_4 : Int32 := (fX2_nextSign u_1.2.1 T_length fS u_1.2.2.2.2.1).2
  let z_23 : Int32 × Int32 × Int32 × Int32 × (Nat → Int32) × Int32 × Int32 × (Nat → Int32) := lpX2_readSum_12 T_length fS inn (61) 0 r_5 u_1.1 u_4 u_1.2.2.1 u_1.2.2.2.1 u_1.2.2.2.2.1 u_1.2.2.2.2.2
  (z_23.2.2.1, z_23.2.2.2.1, z_23.2.2.2.2.1, z_23.2.2.2.2.2.1, z_23.2.2.2.2.2.2.1, z_23.2.2.2.2.2.2.2)) : Int32 × Int32 × (Nat → Int32) × Int32 × Int32 × (Nat → Int32))) er_5.symm).trans ((congrArg (fun (u_4 : Int32) => ((let z_23 : Int32 × Int32 × Int32 × Int32 × (Nat → Int32) × Int32 × Int32 × (Nat → Int32) := lpX2_readSum_12 T_length fS inn (61) 0 r_5 u_1.1 u_4 u_1.2.2.1 u_1.2.2.2.1 u_1.2.2.2.2.1 u_1.2.2.2.2.2
  (z_23.2.2.1, z_23.2.2.2.1, z_23.2.2.2.2.1, z_23.2.2.2.2.2.1, z_23.2.2.2.2.2.2.1, z_23.2.2.2.2.2.2.2)) : Int32 × Int32 × (Nat → Int32) × Int32 × Int32 × (Nat → Int32))) eu_4.symm).trans ((congrArg (fun (z_23 : Int32 × Int32 × Int32 × Int32 × (Nat → Int32) × Int32 × Int32 × (Nat → Int32)) => (((z_23.2.2.1, z_23.2.2.2.1, z_23.2.2.2.2.1, z_23.2.2.2.2.2.1, z_23.2.2.2.2.2.2.1, z_23.2.2.2.2.2.2.2)) : Int32 × Int32 × (Nat → Int32) × Int32 × Int32 × (Nat → Int32))) ez_23.symm))))).symm
          have en_0 : 0 ≤ z_23.2.2.2.1.toInt := by first | assumption | omega
          have en_1 : z_23.2.2.2.1.toInt ≤ 60 := by first | assumption | omega
          have en_2 : 0 ≤ z_23.2.2.1.toInt := by first | assumption | omega
          have en_3 : z_23.2.2.1.toInt ≤ 60 := by first | assumption | omega
          have en_4 : 0 ≤ z_23.2.2.2.2.2.1.toInt := by first | assumption | omega
          have en_5 : z_23.2.2.2.2.2.1.toInt ≤ 60 := by first | assumption | omega
          exact kk_ev hx hb hr hlocks hK hq [2, 0, 3, 4, 5, 1] (z_23.2.2.1, z_23.2.2.2.1, z_23.2.2.2.2.1, z_23.2.2.2.2.2.1, z_23.2.2.2.2.2.2.1, z_23.2.2.2.2.2.2.2) rfl (by decide) dX2_readSum_64 ⟨hf, en_0, en_1, en_2, en_3, en_4, en_5⟩
        · skip
          have hlt := nx_use nx c_21 (by decide)
          refine lv_aload_n hx hb dX2_readSum_30 rfl (lv_at hl 2 rfl) ?_
          refine lv_dup hx hb dX2_readSum_31 rfl ?_
          refine kk_get (ci := 2) (v := .int at_) (C := RX2) (T := TX2) (N := 5) hx hb hts iX2 hown hK hq 2 rfl rfl 4 (by decide) lk0_ rfl dX2_readSum_32 ?_
          refine lv_iconst (v := 1) hx hb dX2_readSum_35 (by decide) ?_
          refine lv_iadd hx hb dX2_readSum_36 ?_
          refine lv_topi (fun at_24 eat_24 => ?_)
          refine kk_put (ws' := [(aW, .inl (cW, 60, .inl wf)), (aP, .inl (cP, 60, .inl pf)), (aR, .inr (2, [.ref aW, .int wc, .ref aT, .ref aL, .int at_24])), (aT, .inr (5, [.ref aS, .int T_length])), (aS, .inl (cS, 60, .inl fS)), (aL, .inr (1, [.ref aP, .int cn, .int fl, .ref rL_values, .int L_top]))]) (ci := 2) (v := .int at_24) (C := RX2) (T := TX2) (N := 5) hx hb hts iX2 tyX2_ok nmX2 hown hK hq 2 rfl rfl 4 (by decide) lk0_ rfl rfl rfl (Nat.le_of_ble_eq_true rfl) dX2_readSum_37 rfl (fun H locs hq => ?_)
          have hat_24 := at_inc eat_24 (by assumption) hlt
          have q0at_24 : 0 ≤ at_24.toInt := hat_24.1
          have q1at_24 : at_24.toInt ≤ 60 := hat_24.2
          refine lv_aload_n hx hb dX2_readSum_40 rfl (lv_at hl 2 rfl) ?_
          refine lv_iload_n hx hb dX2_readSum_41 rfl (lv_at hl 3 rfl) ?_
          refine kk_Vv (As := [.int p1]) (rest := []) (wr := []) ⟨hx, hb, hml, hown, hts⟩ (c_X2_readTerm l G aR aW aT aS aL aP rL_values cW cS cP F Q p1 wc at_24 wf T_length fS cn fl L_top pf inn (by assumption) (by assumption) (by assumption) (by assumption) (by assumption) (by assumption) (by assumption) (by assumption)) (kk_cwV 1 hts hsb wd_245 wd_246 wd_247 wd_25 wd_248 rfl rfl hd_X2_readTerm ⟨by dsimp only [headSpec]; omega, by dsimp only [headSpec]; omega⟩) hA hK hq [2, 0, 3, 4, 5, 1] [] [0, 1, 2] rfl rfl rfl (by decide) (by decide) (by decide) 0 2 rfl rfl rfl rfl hl.1 rfl (Nat.le_of_ble_eq_true rfl) dX2_readSum_42 ⟨Nat.zero_le _, Nat.zero_le _⟩ (fun u_25 H locs h_27 hq => ?_)
          obtain ⟨eu_25, q0_u_25, q1_u_25, w0_u_25, w1_u_25, k0_u_25, k1_u_25⟩ := h_27
          have hq : kAt G A s [(aR, .inr (2, [.ref aW, .int u_25.1, .ref aT, .ref aL, .int u_25.2.1])), (aW, .inl (cW, 60, .inl u_25.2.2.1)), (aT, .inr (5, [.ref aS, .int T_length])), (aS, .inl (cS, 60, .inl fS)), (aL, .inr (1, [.ref aP, .int u_25.2.2.2.1, .int u_25.2.2.2.2.1, .ref rL_values, .int L_top])), (aP, .inl (cP, 60, .inl u_25.2.2.2.2.2))] H locs := hq
          refine lv_aload_n hx hb dX2_readSum_45 rfl (lv_at hl 2 rfl) ?_
          refine kk_get (ci := 2) (v := .ref aL) (C := RX2) (T := TX2) (N := 5) hx hb hts iX2 hown hK hq 0 rfl rfl 3 (by decide) lk1_ rfl dX2_readSum_46 ?_
          refine lv_iload_n hx hb dX2_readSum_49 rfl (lv_at hl 1 rfl) ?_
          refine kk_Vv (As := [.int sg]) (rest := []) (wr := [(aR, .inr (2, [.ref aW, .int u_25.1, .ref aT, .ref aL, .int u_25.2.1])), (aW, .inl (cW, 60, .inl u_25.2.2.1)), (aT, .inr (5, [.ref aS, .int T_length])), (aS, .inl (cS, 60, .inl fS))]) ⟨hx, hb, hml, hown, hts⟩ (c_X1_addSign l G aL aP rL_values cP sg u_25.2.2.2.1 u_25.2.2.2.2.1 L_top u_25.2.2.2.2.2 (by assumption) (by assumption)) (kk_cwV 1 hts hsb wd_205 wd_206 wd_207 wd_21 wd_208 rfl rfl hd_X1_addSign ⟨by dsimp only [headSpec]; omega, by dsimp only [headSpec]; omega⟩) hA hK hq [4, 5] [0, 1, 2, 3] [2] rfl rfl rfl (by decide) (by decide) (by decide) 0 1 rfl rfl rfl rfl hl.1 rfl (Nat.le_of_ble_eq_true rfl) dX2_readSum_50 ⟨Nat.zero_le _, Nat.zero_le _⟩ (fun u_28 H locs h_30 hq => ?_)
          obtain ⟨eu_28, k0_u_28, k1_u_28⟩ := h_30
          have hq : kAt G A s [(aR, .inr (2, [.ref aW, .int u_25.1, .ref aT, .ref aL, .int u_25.2.1])), (aW, .inl (cW, 60, .inl u_25.2.2.1)), (aT, .inr (5, [.ref aS, .int T_length])), (aS, .inl (cS, 60, .inl fS)), (aL, .inr (1, [.ref aP, .int u_28.1, .int u_25.2.2.2.2.1, .ref rL_values, .int L_top])), (aP, .inl (cP, 60, .inl u_28.2))] H locs := hq
          refine lv_aload_n hx hb dX2_readSum_53 rfl (lv_at hl 2 rfl) ?_
          refine kk_Vi (As := []) (rest := []) (wr := [(aW, .inl (cW, 60, .inl u_25.2.2.1)), (aP, .inl (cP, 60, .inl u_28.2))]) ⟨hx, hb, hml, hown, hts⟩ (c_X2_nextSign l G aR aT aS aL aW aP rL_values cS u_25.1 u_25.2.1 T_length fS u_28.1 u_25.2.2.2.2.1 L_top (by assumption) (by assumption) (by assumption)) (kk_cwV 0 hts hsb wd_195 wd_196 wd_197 wd_25 wd_198 rfl rfl hd_X2_nextSign ⟨by dsimp only [headSpec]; omega, by dsimp only [headSpec]; omega⟩) hA hK hq [0, 2, 3, 4] [1, 5] [1] rfl rfl rfl (by decide) (by decide) (by decide) 0 2 rfl rfl rfl rfl hl.1 rfl (Nat.le_of_ble_eq_true rfl) dX2_readSum_54 ⟨Nat.zero_le _, Nat.zero_le _⟩ (fun r_32 u_31 H locs h_33 hq => ?_)
          obtain ⟨er_32, eu_31, q0_u_31, q1_u_31, nx_u_31⟩ := h_33
          have hq : kAt G A s [(aW, .inl (cW, 60, .inl u_25.2.2.1)), (aP, .inl (cP, 60, .inl u_28.2)), (aR, .inr (2, [.ref aW, .int u_25.1, .ref aT, .ref aL, .int u_31])), (aT, .inr (5, [.ref aS, .int T_length])), (aS, .inl (cS, 60, .inl fS)), (aL, .inr (1, [.ref aP, .int u_28.1, .int u_25.2.2.2.2.1, .ref rL_values, .int L_top]))] H locs := hq
          refine lv_istore_n (lv' := [(2, .int r_32), (3, .int i), (0, .ref aR), (1, .int p1)]) hx hb dX2_readSum_57 rfl hl (by decide) rfl (fun ls hl => ?_)
          refine lv_iinc (v := i + 1) (lv' := [(3, .int (i + 1)), (2, .int r_32), (0, .ref aR), (1, .int p1)]) hx hb dX2_readSum_58 hl (k := 1) rfl rfl (by decide) rfl (fun ls hl => ?_)
          refine lv_goto (tgt := 12) hx hb dX2_readSum_61 (by decide) ?_
          exact ih (i + 1) r_32 u_25.1 u_31 u_25.2.2.1 u_28.1 u_25.2.2.2.2.1 u_28.2 _ _ _ ⟨(hrel.trans ((if_neg c_7).trans ((if_neg c_10).trans ((if_pos c_21).trans ((congrArg (fun (at_24 : Int32) => ((let u_21 : Int32 × Int32 × (Nat → Int32) × Int32 × Int32 × (Nat → Int32) := fX2_readTerm inn wc at_24 wf T_length fS cn fl pf
    let u_24 : Int32 × (Nat → Int32) := fX1_addSign sg u_21.2.2.2.1 u_21.2.2.2.2.2
    let r_28 : Int32 := (fX2_nextSign u_21.2.1 T_length fS u_21.2.2.2.2.1).1
    let u_27 : Int32 := (fX2_nextSign u_21.2.1 T_length fS u_21.2.2.2.2.1).2
    lpX2_readSum_12 T_length fS inn N (i + 1) r_28 u_21.1 u_27 u_21.2.2.1 u_24.1 u_21.2.2.2.2.1 u_24.2) : Int32 × Int32 × Int32 × Int32 × (Nat → Int32) × Int32 × Int32 × (Nat → Int32))) eat_24.symm).trans ((congrArg (fun (u_25 : Int32 × Int32 × (Nat → Int32) × Int32 × Int32 × (Nat → Int32)) => ((let u_24 : Int32 × (Nat → Int32) := fX1_addSign sg u_25.2.2.2.1 u_25.2.2.2.2.2
    let r_28 : Int32 := (fX2_nextSign u_25.2.1 T_length fS u_25.2.2.2.2.1).1
    let u_27 : Int32 := (fX2_nextSign u_25.2.1 T_length fS u_25.2.2.2.2.1).2
    lpX2_readSum_12 T_length fS inn N (i + 1) r_28 u_25.1 u_27 u_25.2.2.1 u_24.1 u_25.2.2.2.2.1 u_24.2) : Int32 × Int32 × Int32 × Int32 × (Nat → Int32) × Int32 × Int32 × (Nat → Int32))) eu_25.symm).trans ((congrArg (fun (u_28 : Int32 × (Nat → Int32)) => ((let r_28 : Int32 := (fX2_nextSign u_25.2.1 T_length fS u_25.2.2.2.2.1).1
    let u_27 : Int32 := (fX2_nextSign u_25.2.1 T_length fS u_25.2.2.2.2.1).2
    lpX2_readSum_12 T_length fS inn N (i + 1) r_28 u_25.1 u_27 u_25.2.2.1 u_28.1 u_25.2.2.2.2.1 u_28.2) : Int32 × Int32 × Int32 × Int32 × (Nat → Int32) × Int32 × Int32 × (Nat → Int32))) eu_28.symm).trans ((congrArg (fun (r_32 : Int32) => ((let u_27 : Int32 := (fX2_nextSign u_25.2.1 T_length fS u_25.2.2.2.2.1).2
    lpX2_readSum_12 T_length fS inn N (i + 1) r_32 u_25.1 u_27 u_25.2.2.1 u_28.1 u_25.2.2.2.2.1 u_28.2) : Int32 × Int32 × Int32 × Int32 × (Nat → Int32) × Int32 × Int32 × (Nat → Int32))) er_32.symm).trans ((congrArg (fun (u_31 : Int32) => ((lpX2_readSum_12 T_length fS inn N (i + 1) r_32 u_25.1 u_31 u_25.2.2.1 u_28.1 u_25.2.2.2.2.1 u_28.2) : Int32 × Int32 × Int32 × Int32 × (Nat → Int32) × Int32 × Int32 × (Nat → Int32))) eu_31.symm)))))))))), (by have := kk_inc (x := i) (by omega); omega), (by have := kk_inc (x := i) (by omega); omega), (by have := kk_inc (x := i) (by omega); omega), (by assumption), (by assumption), (by assumption), (by assumption), (by assumption), (by assumption), (by assumption), lv_sub hl [0, 1, 2, 3] rfl, hq⟩
