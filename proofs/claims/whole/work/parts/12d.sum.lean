theorem hd_X2_readTerm : yX2_readTerm.cls = RX2 ∧ yX2_readTerm.cls ≠ "java/lang/invoke/MethodHandle" ∧ yX2_readTerm.cls ≠ "java/lang/invoke/VarHandle" ∧ (parseMethodDescriptor yX2_readTerm.desc).map (fun d => d.parameters.length) = some 1 := by decide +kernel
def lpX2_readSum_12 (T_length : Int32) (fS : Nat → Int32) (inn : Int32 → Int32 → (Nat → Int32) → Int32 → Int32 → (Nat → Int32) → Int32 × Int32 × (Nat → Int32) × Int32 × Int32 × (Nat → Int32)) : Nat → Int32 → Int32 → Int32 → Int32 → (Nat → Int32) → Int32 → Int32 → (Nat → Int32) → Int32 × Int32 × Int32 × Int32 × (Nat → Int32) × Int32 × Int32 × (Nat → Int32)
  | 0, _, _, _, _, _, _, _, _ => (0, 0, 0, 0, fun _ => 0, 0, 0, fun _ => 0)
  | N + 1, i, sg, wc, at_, wf, cn, fl, pf =>
    if 60 ≤ i then (
    (i, sg, wc, at_, wf, cn, fl, pf))
    else (
    if sg = 43 then (
    let at_9 : Int32 := at_ + 1
    let u_10 : Int32 × Int32 × (Nat → Int32) × Int32 × Int32 × (Nat → Int32) := fX2_readTerm inn wc at_9 wf T_length fS cn fl pf
    let u_13 : Int32 × (Nat → Int32) := fX1_addSign sg u_10.2.2.2.1 u_10.2.2.2.2.2
    let r_17 : Int32 := (fX2_nextSign u_10.2.1 T_length fS u_10.2.2.2.2.1).1
    let u_16 : Int32 := (fX2_nextSign u_10.2.1 T_length fS u_10.2.2.2.2.1).2
    lpX2_readSum_12 T_length fS inn N (i + 1) r_17 u_10.1 u_16 u_10.2.2.1 u_13.1 u_10.2.2.2.2.1 u_13.2)
    else (
    if sg = 45 then (
    let at_20 : Int32 := at_ + 1
    let u_21 : Int32 × Int32 × (Nat → Int32) × Int32 × Int32 × (Nat → Int32) := fX2_readTerm inn wc at_20 wf T_length fS cn fl pf
    let u_24 : Int32 × (Nat → Int32) := fX1_addSign sg u_21.2.2.2.1 u_21.2.2.2.2.2
    let r_28 : Int32 := (fX2_nextSign u_21.2.1 T_length fS u_21.2.2.2.2.1).1
    let u_27 : Int32 := (fX2_nextSign u_21.2.1 T_length fS u_21.2.2.2.2.1).2
    lpX2_readSum_12 T_length fS inn N (i + 1) r_28 u_21.1 u_27 u_21.2.2.1 u_24.1 u_21.2.2.2.2.1 u_24.2)
    else (
    (i, sg, wc, at_, wf, cn, fl, pf))))

def fX2_readSum (inn : Int32 → Int32 → (Nat → Int32) → Int32 → Int32 → (Nat → Int32) → Int32 × Int32 × (Nat → Int32) × Int32 × Int32 × (Nat → Int32)) (R_waitingCount : Int32) (R_at : Int32) (fW : Nat → Int32) (T_length : Int32) (fS : Nat → Int32) (L_count : Int32) (L_fault : Int32) (fP : Nat → Int32) : Int32 × Int32 × (Nat → Int32) × Int32 × Int32 × (Nat → Int32) :=
  let u_1 : Int32 × Int32 × (Nat → Int32) × Int32 × Int32 × (Nat → Int32) := fX2_readTerm inn R_waitingCount R_at fW T_length fS L_count L_fault fP
  let r_5 : Int32 := (fX2_nextSign u_1.2.1 T_length fS u_1.2.2.2.2.1).1
  let u_4 : Int32 := (fX2_nextSign u_1.2.1 T_length fS u_1.2.2.2.2.1).2
  let i_30 : Int32 := (lpX2_readSum_12 T_length fS inn (61) 0 r_5 u_1.1 u_4 u_1.2.2.1 u_1.2.2.2.1 u_1.2.2.2.2.1 u_1.2.2.2.2.2).1
  let sg_31 : Int32 := (lpX2_readSum_12 T_length fS inn (61) 0 r_5 u_1.1 u_4 u_1.2.2.1 u_1.2.2.2.1 u_1.2.2.2.2.1 u_1.2.2.2.2.2).2.1
  let wc_32 : Int32 := (lpX2_readSum_12 T_length fS inn (61) 0 r_5 u_1.1 u_4 u_1.2.2.1 u_1.2.2.2.1 u_1.2.2.2.2.1 u_1.2.2.2.2.2).2.2.1
  let at__33 : Int32 := (lpX2_readSum_12 T_length fS inn (61) 0 r_5 u_1.1 u_4 u_1.2.2.1 u_1.2.2.2.1 u_1.2.2.2.2.1 u_1.2.2.2.2.2).2.2.2.1
  let wf_34 : Nat → Int32 := (lpX2_readSum_12 T_length fS inn (61) 0 r_5 u_1.1 u_4 u_1.2.2.1 u_1.2.2.2.1 u_1.2.2.2.2.1 u_1.2.2.2.2.2).2.2.2.2.1
  let cn_35 : Int32 := (lpX2_readSum_12 T_length fS inn (61) 0 r_5 u_1.1 u_4 u_1.2.2.1 u_1.2.2.2.1 u_1.2.2.2.2.1 u_1.2.2.2.2.2).2.2.2.2.2.1
  let fl_36 : Int32 := (lpX2_readSum_12 T_length fS inn (61) 0 r_5 u_1.1 u_4 u_1.2.2.1 u_1.2.2.2.1 u_1.2.2.2.2.1 u_1.2.2.2.2.2).2.2.2.2.2.2.1
  let pf_37 : Nat → Int32 := (lpX2_readSum_12 T_length fS inn (61) 0 r_5 u_1.1 u_4 u_1.2.2.1 u_1.2.2.2.1 u_1.2.2.2.2.1 u_1.2.2.2.2.2).2.2.2.2.2.2.2
  (wc_32, at__33, wf_34, cn_35, fl_36, pf_37)

set_option maxHeartbeats 4000000 in
set_option maxRecDepth 100000 in
theorem c_X2_readSum (l : Launch) (G : va_G) (aR aW aT aS aL aP rL_values : Nat) (cW cS cP : ClassId) (F Q : Nat) (p1 : Int32) (R_waitingCount : Int32) (R_at : Int32) (fW : Nat → Int32) (T_length : Int32) (fS : Nat → Int32) (L_count : Int32) (L_fault : Int32) (L_top : Int32) (fP : Nat → Int32) (inn : Int32 → Int32 → (Nat → Int32) → Int32 → Int32 → (Nat → Int32) → Int32 × Int32 × (Nat → Int32) × Int32 × Int32 × (Nat → Int32)) (q0 : 0 ≤ R_at.toInt) (q1 : R_at.toInt ≤ 60) (n1 : T_length.toInt ≤ 60) (w0 : 0 ≤ R_waitingCount.toInt) (w1 : R_waitingCount.toInt ≤ 60) (k0 : 0 ≤ L_count.toInt) (k1 : L_count.toInt ≤ 60) (hI : hy_inner l G aR aW aT aS aL aP rL_values cW cS cP F Q p1 T_length fS inn) : kCv l yX2_readSum (Cond.code yX2_readSum cX2_readSum 4 none :: wsL_law) ({ frames := F + 6, cells := 0, slots := 0, locals := Q + 132 }) G [(cW, .int), (cS, .int), (cP, .int)] [.ref aR, .int p1] [(aR, .inr (2, [.ref aW, .int R_waitingCount, .ref aT, .ref aL, .int R_at])), (aW, .inl (cW, 60, .inl fW)), (aT, .inr (5, [.ref aS, .int T_length])), (aS, .inl (cS, 60, .inl fS)), (aL, .inr (1, [.ref aP, .int L_count, .int L_fault, .ref rL_values, .int L_top])), (aP, .inl (cP, 60, .inl fP))] (fun (u : Int32 × Int32 × (Nat → Int32) × Int32 × Int32 × (Nat → Int32)) => u = fX2_readSum inn R_waitingCount R_at fW T_length fS L_count L_fault fP ∧ (0 ≤ u.2.1.toInt) ∧ (u.2.1.toInt ≤ 60) ∧ (0 ≤ u.1.toInt) ∧ (u.1.toInt ≤ 60) ∧ (0 ≤ u.2.2.2.1.toInt) ∧ (u.2.2.2.1.toInt ≤ 60)) (fun (u : Int32 × Int32 × (Nat → Int32) × Int32 × Int32 × (Nat → Int32)) => [(aR, .inr (2, [.ref aW, .int u.1, .ref aT, .ref aL, .int u.2.1])), (aW, .inl (cW, 60, .inl u.2.2.1)), (aT, .inr (5, [.ref aS, .int T_length])), (aS, .inl (cS, 60, .inl fS)), (aL, .inr (1, [.ref aP, .int u.2.2.2.1, .int u.2.2.2.2.1, .ref rL_values, .int L_top])), (aP, .inl (cP, 60, .inl u.2.2.2.2.2))]) := by
  intro sz
  refine Met.ofW (cc := cX2_readSum) (maxL := 4) (ret := none) (by decide) rfl ?_
  intro p e s m args below meth c s₁ B hml hv
  obtain ⟨rfl, hv⟩ := hv
  obtain ⟨rfl, hK, hq, hA⟩ := kk_begin hv
  have hx := B.exec
  have hb := B.bytes
  have hr := B.returns
  have hts := atoms_spec (ws := (Cond.code yX2_readSum cX2_readSum 4 none :: wsL_law)) B.pre
  have hown : s.vm.findClass RX2 = some m.cls := findClass_of_methodNamed B.named
  have hlocks := B.notSynchronized
  have hsb : ∀ w ∈ wsL_law, w ∈ (Cond.code yX2_readSum cX2_readSum 4 none :: wsL_law) := fun _ h => List.mem_cons_of_mem _ h
  generalize va_A [(aR, .inr (2, [.ref aW, .int R_waitingCount, .ref aT, .ref aL, .int R_at])), (aW, .inl (cW, 60, .inl fW)), (aT, .inr (5, [.ref aS, .int T_length])), (aS, .inl (cS, 60, .inl fS)), (aL, .inr (1, [.ref aP, .int L_count, .int L_fault, .ref rL_values, .int L_top])), (aP, .inl (cP, 60, .inl fP))] s.heap.size = A at hq hA ⊢
  have iX2 : ∀ w ∈ u_ws RX2 TX2 5, w ∈ (Cond.code yX2_readSum cX2_readSum 4 none :: wsL_law) := fun w h => hsb w (bin_X2 w h)
  have lk0_ := hts _ (hsb _ wd_110)
  have lk1_ := hts _ (hsb _ wd_112)
  have hl := lv_entry ([.ref aR, .int p1]) (n := 4) (Nat.le_of_ble_eq_true rfl)
  rw [lg_entry_eq]
  generalize (lg_sl ([.ref aR, .int p1]) ++ List.replicate (4 - (lg_sl ([.ref aR, .int p1])).length) Slot.unset).toArray = ls at hl ⊢
  have hl : lv_has ls 4 [(0, .ref aR), (1, .int p1)] := hl
  refine lv_aload_n hx hb dX2_readSum_0 rfl (lv_at hl 0 rfl) ?_
  refine lv_iload_n hx hb dX2_readSum_1 rfl (lv_at hl 1 rfl) ?_
  refine kk_Vv (As := [.int p1]) (rest := []) (wr := []) ⟨hx, hb, hml, hown, hts⟩ (c_X2_readTerm l G aR aW aT aS aL aP rL_values cW cS cP F Q p1 R_waitingCount R_at fW T_length fS L_count L_fault L_top fP inn (by assumption) (by assumption) (by assumption) (by assumption) (by assumption) (by assumption) (by assumption) (by assumption)) (kk_cwV 1 hts hsb wd_245 wd_246 wd_247 wd_25 wd_248 rfl rfl hd_X2_readTerm ⟨by dsimp only [headSpec]; omega, by dsimp only [headSpec]; omega⟩) hA hK hq [0, 1, 2, 3, 4, 5] [] [0, 1, 2] rfl rfl rfl (by decide) (by decide) (by decide) 0 2 rfl rfl rfl rfl hl.1 rfl (Nat.le_of_ble_eq_true rfl) dX2_readSum_2 ⟨Nat.zero_le _, Nat.zero_le _⟩ (fun u_1 H locs h_3 hq => ?_)
  obtain ⟨eu_1, q0_u_1, q1_u_1, w0_u_1, w1_u_1, k0_u_1, k1_u_1⟩ := h_3
  have hq : kAt G A s [(aR, .inr (2, [.ref aW, .int u_1.1, .ref aT, .ref aL, .int u_1.2.1])), (aW, .inl (cW, 60, .inl u_1.2.2.1)), (aT, .inr (5, [.ref aS, .int T_length])), (aS, .inl (cS, 60, .inl fS)), (aL, .inr (1, [.ref aP, .int u_1.2.2.2.1, .int u_1.2.2.2.2.1, .ref rL_values, .int L_top])), (aP, .inl (cP, 60, .inl u_1.2.2.2.2.2))] H locs := hq
  refine lv_aload_n hx hb dX2_readSum_5 rfl (lv_at hl 0 rfl) ?_
  refine kk_Vi (As := []) (rest := []) (wr := [(aW, .inl (cW, 60, .inl u_1.2.2.1)), (aP, .inl (cP, 60, .inl u_1.2.2.2.2.2))]) ⟨hx, hb, hml, hown, hts⟩ (c_X2_nextSign l G aR aT aS aL aW aP rL_values cS u_1.1 u_1.2.1 T_length fS u_1.2.2.2.1 u_1.2.2.2.2.1 L_top (by assumption) (by assumption) (by assumption)) (kk_cwV 0 hts hsb wd_195 wd_196 wd_197 wd_25 wd_198 rfl rfl hd_X2_nextSign ⟨by dsimp only [headSpec]; omega, by dsimp only [headSpec]; omega⟩) hA hK hq [0, 2, 3, 4] [1, 5] [1] rfl rfl rfl (by decide) (by decide) (by decide) 0 2 rfl rfl rfl rfl hl.1 rfl (Nat.le_of_ble_eq_true rfl) dX2_readSum_6 ⟨Nat.zero_le _, Nat.zero_le _⟩ (fun r_5 u_4 H locs h_6 hq => ?_)
  obtain ⟨er_5, eu_4, q0_u_4, q1_u_4, nx_u_4⟩ := h_6
  have hq : kAt G A s [(aW, .inl (cW, 60, .inl u_1.2.2.1)), (aP, .inl (cP, 60, .inl u_1.2.2.2.2.2)), (aR, .inr (2, [.ref aW, .int u_1.1, .ref aT, .ref aL, .int u_4])), (aT, .inr (5, [.ref aS, .int T_length])), (aS, .inl (cS, 60, .inl fS)), (aL, .inr (1, [.ref aP, .int u_1.2.2.2.1, .int u_1.2.2.2.2.1, .ref rL_values, .int L_top]))] H locs := hq
  refine lv_istore_n (lv' := [(2, .int r_5), (0, .ref aR), (1, .int p1)]) hx hb dX2_readSum_9 rfl hl (by decide) rfl (fun ls hl => ?_)
  refine lv_iconst (v := 0) hx hb dX2_readSum_10 (by decide) ?_
  refine lv_istore_n (lv' := [(3, .int 0), (2, .int r_5), (0, .ref aR), (1, .int p1)]) hx hb dX2_readSum_11 rfl hl (by decide) rfl (fun ls hl => ?_)
  refine kk_loop8 (fun N (i : Int32) (sg : Int32) (wc : Int32) (at_ : Int32) (wf : Nat → Int32) (cn : Int32) (fl : Int32) (pf : Nat → Int32) (H : Heap) (locs : List Loc) (ls : Array Slot) => lpX2_readSum_12 T_length fS inn (61) 0 r_5 u_1.1 u_4 u_1.2.2.1 u_1.2.2.2.1 u_1.2.2.2.2.1 u_1.2.2.2.2.2 = lpX2_readSum_12 T_length fS inn N i sg wc at_ wf cn fl pf ∧ (0 ≤ i.toInt) ∧ (i.toInt ≤ 60) ∧ (i.toInt + N = 61) ∧ (0 ≤ at_.toInt) ∧ (at_.toInt ≤ 60) ∧ (0 ≤ wc.toInt) ∧ (wc.toInt ≤ 60) ∧ (0 ≤ cn.toInt) ∧ (cn.toInt ≤ 60) ∧ (sg = -1 ∨ at_.toInt < 60) ∧ lv_has ls 4 [(3, .int i), (2, .int sg), (0, .ref aR), (1, .int p1)] ∧ kAt G A s [(aW, .inl (cW, 60, .inl wf)), (aP, .inl (cP, 60, .inl pf)), (aR, .inr (2, [.ref aW, .int wc, .ref aT, .ref aL, .int at_])), (aT, .inr (5, [.ref aS, .int T_length])), (aS, .inl (cS, 60, .inl fS)), (aL, .inr (1, [.ref aP, .int cn, .int fl, .ref rL_values, .int L_top]))] H locs) 12 (fun i sg wc at_ wf cn fl pf => []) (fun i sg wc at_ wf cn fl pf H locs ls hv => ?_) (fun N i sg wc at_ wf cn fl pf H locs ls ih hv => ?_) (61) 0 r_5 u_1.1 u_4 u_1.2.2.1 u_1.2.2.2.1 u_1.2.2.2.2.1 u_1.2.2.2.2.2 _ _ _ ⟨rfl, (by decide), (by decide), (by decide), (by assumption), (by assumption), (by assumption), (by assumption), (by assumption), (by assumption), (by assumption), lv_sub hl [0, 1, 2, 3] rfl, hq⟩
  · skip
    obtain ⟨hrel, i0, i1, hN, ap0, ap1, v0, v1, d0, d1, nx, hl, hq⟩ := hv
    omega
  · skip
    obtain ⟨hrel, i0, i1, hN, ap0, ap1, v0, v1, d0, d1, nx, hl, hq⟩ := hv
    refine lv_iload_n hx hb dX2_readSum_12 rfl (lv_at hl 0 rfl) ?_
    refine lv_bipush (v := 60) hx hb dX2_readSum_13 (by decide) ?_
    refine lv_icmp_ge (tgt := 64) hx hb dX2_readSum_15 (by decide) (fun c_7 => ?_) (fun c_7 => ?_)
    · skip
      have hx_8 : ((i, sg, wc, at_, wf, cn, fl, pf) : Int32 × Int32 × Int32 × Int32 × (Nat → Int32) × Int32 × Int32 × (Nat → Int32)) = lpX2_readSum_12 T_length fS inn (61) 0 r_5 u_1.1 u_4 u_1.2.2.1 u_1.2.2.2.1 u_1.2.2.2.2.1 u_1.2.2.2.2.2 := (hrel.trans ((if_pos c_7))).symm
      obtain ⟨i_9, gi_9⟩ : ∃ z : Int32, z = i := ⟨_, rfl⟩
      have ei_9 : i_9 = (lpX2_readSum_12 T_length fS inn (61) 0 r_5 u_1.1 u_4 u_1.2.2.1 u_1.2.2.2.1 u_1.2.2.2.2.1 u_1.2.2.2.2.2).1 := gi_9.trans (congrArg (fun z : Int32 × Int32 × Int32 × Int32 × (Nat → Int32) × Int32 × Int32 × (Nat → Int32) => z.1) hx_8)
      obtain ⟨sg_10, gsg_10⟩ : ∃ z : Int32, z = sg := ⟨_, rfl⟩
      have esg_10 : sg_10 = (lpX2_readSum_12 T_length fS inn (61) 0 r_5 u_1.1 u_4 u_1.2.2.1 u_1.2.2.2.1 u_1.2.2.2.2.1 u_1.2.2.2.2.2).2.1 := gsg_10.trans (congrArg (fun z : Int32 × Int32 × Int32 × Int32 × (Nat → Int32) × Int32 × Int32 × (Nat → Int32) => z.2.1) hx_8)
      obtain ⟨wc_11, gwc_11⟩ : ∃ z : Int32, z = wc := ⟨_, rfl⟩
      have ewc_11 : wc_11 = (lpX2_readSum_12 T_length fS inn (61) 0 r_5 u_1.1 u_4 u_1.2.2.1 u_1.2.2.2.1 u_1.2.2.2.2.1 u_1.2.2.2.2.2).2.2.1 := gwc_11.trans (congrArg (fun z : Int32 × Int32 × Int32 × Int32 × (Nat → Int32) × Int32 × Int32 × (Nat → Int32) => z.2.2.1) hx_8)
      obtain ⟨at__12, gat__12⟩ : ∃ z : Int32, z = at_ := ⟨_, rfl⟩
      have eat__12 : at__12 = (lpX2_readSum_12 T_length fS inn (61) 0 r_5 u_1.1 u_4 u_1.2.2.1 u_1.2.2.2.1 u_1.2.2.2.2.1 u_1.2.2.2.2.2).2.2.2.1 := gat__12.trans (congrArg (fun z : Int32 × Int32 × Int32 × Int32 × (Nat → Int32) × Int32 × Int32 × (Nat → Int32) => z.2.2.2.1) hx_8)
      obtain ⟨wf_13, gwf_13⟩ : ∃ z : Nat → Int32, z = wf := ⟨_, rfl⟩
      have ewf_13 : wf_13 = (lpX2_readSum_12 T_length fS inn (61) 0 r_5 u_1.1 u_4 u_1.2.2.1 u_1.2.2.2.1 u_1.2.2.2.2.1 u_1.2.2.2.2.2).2.2.2.2.1 := gwf_13.trans (congrArg (fun z : Int32 × Int32 × Int32 × Int32 × (Nat → Int32) × Int32 × Int32 × (Nat → Int32) => z.2.2.2.2.1) hx_8)
      obtain ⟨cn_14, gcn_14⟩ : ∃ z : Int32, z = cn := ⟨_, rfl⟩
      have ecn_14 : cn_14 = (lpX2_readSum_12 T_length fS inn (61) 0 r_5 u_1.1 u_4 u_1.2.2.1 u_1.2.2.2.1 u_1.2.2.2.2.1 u_1.2.2.2.2.2).2.2.2.2.2.1 := gcn_14.trans (congrArg (fun z : Int32 × Int32 × Int32 × Int32 × (Nat → Int32) × Int32 × Int32 × (Nat → Int32) => z.2.2.2.2.2.1) hx_8)
      obtain ⟨fl_15, gfl_15⟩ : ∃ z : Int32, z = fl := ⟨_, rfl⟩
      have efl_15 : fl_15 = (lpX2_readSum_12 T_length fS inn (61) 0 r_5 u_1.1 u_4 u_1.2.2.1 u_1.2.2.2.1 u_1.2.2.2.2.1 u_1.2.2.2.2.2).2.2.2.2.2.2.1 := gfl_15.trans (congrArg (fun z : Int32 × Int32 × Int32 × Int32 × (Nat → Int32) × Int32 × Int32 × (Nat → Int32) => z.2.2.2.2.2.2.1) hx_8)
      obtain ⟨pf_16, gpf_16⟩ : ∃ z : Nat → Int32, z = pf := ⟨_, rfl⟩
      have epf_16 : pf_16 = (lpX2_readSum_12 T_length fS inn (61) 0 r_5 u_1.1 u_4 u_1.2.2.1 u_1.2.2.2.1 u_1.2.2.2.2.1 u_1.2.2.2.2.2).2.2.2.2.2.2.2 := gpf_16.trans (congrArg (fun z : Int32 × Int32 × Int32 × Int32 × (Nat → Int32) × Int32 × Int32 × (Nat → Int32) => z.2.2.2.2.2.2.2) hx_8)
      have hl : lv_has ls 4 [(3, .int i_9), (2, .int sg_10), (0, .ref aR), (1, .int p1)] := by subst gi_9 gsg_10 gwc_11 gat__12 gwf_13 gcn_14 gfl_15 gpf_16; exact hl
      have hq : kAt G A s [(aW, .inl (cW, 60, .inl wf_13)), (aP, .inl (cP, 60, .inl pf_16)), (aR, .inr (2, [.ref aW, .int wc_11, .ref aT, .ref aL, .int at__12])), (aT, .inr (5, [.ref aS, .int T_length])), (aS, .inl (cS, 60, .inl fS)), (aL, .inr (1, [.ref aP, .int cn_14, .int fl_15, .ref rL_values, .int L_top]))] H locs := by subst gi_9 gsg_10 gwc_11 gat__12 gwf_13 gcn_14 gfl_15 gpf_16; exact hq
      have q0f : 0 ≤ at__12.toInt := by rw [gat__12]; assumption
      have q1f : at__12.toInt ≤ 60 := by rw [gat__12]; assumption
      have w0f : 0 ≤ wc_11.toInt := by rw [gwc_11]; assumption
      have w1f : wc_11.toInt ≤ 60 := by rw [gwc_11]; assumption
      have k0f : 0 ≤ cn_14.toInt := by rw [gcn_14]; assumption
      have k1f : cn_14.toInt ≤ 60 := by rw [gcn_14]; assumption
      have hf : ((wc_11, at__12, wf_13, cn_14, fl_15, pf_16) : Int32 × Int32 × (Nat → Int32) × Int32 × Int32 × (Nat → Int32)) = fX2_readSum inn R_waitingCount R_at fW T_length fS L_count L_fault fP := by
        exact ((congrArg (fun (u_1 : Int32 × Int32 × (Nat → Int32) × Int32 × Int32 × (Nat → Int32)) => ((let r_5 : Int32 := (fX2_nextSign u_1.2.1 T_length fS u_1.2.2.2.2.1).1
  let u_4 : Int32 := (fX2_nextSign u_1.2.1 T_length fS u_1.2.2.2.2.1).2
  let i_30 : Int32 := (lpX2_readSum_12 T_length fS inn (61) 0 r_5 u_1.1 u_4 u_1.2.2.1 u_1.2.2.2.1 u_1.2.2.2.2.1 u_1.2.2.2.2.2).1
  let sg_31 : Int32 := (lpX2_readSum_12 T_length fS inn (61) 0 r_5 u_1.1 u_4 u_1.2.2.1 u_1.2.2.2.1 u_1.2.2.2.2.1 u_1.2.2.2.2.2).2.1
  let wc_32 : Int32 := (lpX2_readSum_12 T_length fS inn (61) 0 r_5 u_1.1 u_4 u_1.2.2.1 u_1.2.2.2.1 u_1.2.2.2.2.1 u_1.2.2.2.2.2).2.2.1
  let at__33 : Int32 := (lpX2_readSum_12 T_length fS inn (61) 0 r_5 u_1.1 u_4 u_1.2.2.1 u_1.2.2.2.1 u_1.2.2.2.2.1 u_1.2.2.2.2.2).2.2.2.1
  let wf_34 : Nat → Int32 := (lpX2_readSum_12 T_length fS inn (61) 0 r_5 u_1.1 u_4 u_1.2.2.1 u_1.2.2.2.1 u_1.2.2.2.2.1 u_1.2.2.2.2.2).2.2.2.2.1
  let cn_35 : Int32 := (lpX2_readSum_12 T_length fS inn (61) 0 r_5 u_1.1 u_4 u_1.2.2.1 u_1.2.2.2.1 u_1.2.2.2.2.1 u_1.2.2.2.2.2).2.2.2.2.2.1
  let fl_36 : Int32 := (lpX2_readSum_12 T_length fS inn (61) 0 r_5 u_1.1 u_4 u_1.2.2.1 u_1.2.2.2.1 u_1.2.2.2.2.1 u_1.2.2.2.2.2).2.2.2.2.2.2.1
  let pf_37 : Nat → Int32 := (lpX2_readSum_12 T_length fS inn (61) 0 r_5 u_1.1 u_4 u_1.2.2.1 u_1.2.2.2.1 u_1.2.2.2.2.1 u_1.2.2.2.2.2).2.2.2.2.2.2.2
  (wc_32, at__33, wf_34, cn_35, fl_36, pf_37)) : Int32 × Int32 × (Nat → Int32) × Int32 × Int32 × (Nat → Int32))) eu_1.symm).trans ((congrArg (fun (r_5 : Int32) => ((let u_4 : Int32 := (fX2_nextSign u_1.2.1 T_length fS u_1.2.2.2.2.1).2
  let i_30 : Int32 := (lpX2_readSum_12 T_length fS inn (61) 0 r_5 u_1.1 u_4 u_1.2.2.1 u_1.2.2.2.1 u_1.2.2.2.2.1 u_1.2.2.2.2.2).1
  let sg_31 : Int32 := (lpX2_readSum_12 T_length fS inn (61) 0 r_5 u_1.1 u_4 u_1.2.2.1 u_1.2.2.2.1 u_1.2.2.2.2.1 u_1.2.2.2.2.2).2.1
  let wc_32 : Int32 := (lpX2_readSum_12 T_length fS inn (61) 0 r_5 u_1.1 u_4 u_1.2.2.1 u_1.2.2.2.1 u_1.2.2.2.2.1 u_1.2.2.2.2.2).2.2.1
  let at__33 : Int32 := (lpX2_readSum_12 T_length fS inn (61) 0 r_5 u_1.1 u_4 u_1.2.2.1 u_1.2.2.2.1 u_1.2.2.2.2.1 u_1.2.2.2.2.2).2.2.2.1
  let wf_34 : Nat → Int32 := (lpX2_readSum_12 T_length fS inn (61) 0 r_5 u_1.1 u_4 u_1.2.2.1 u_1.2.2.2.1 u_1.2.2.2.2.1 u_1.2.2.2.2.2).2.2.2.2.1
  let cn_35 : Int32 := (lpX2_readSum_12 T_length fS inn (61) 0 r_5 u_1.1 u_4 u_1.2.2.1 u_1.2.2.2.1 u_1.2.2.2.2.1 u_1.2.2.2.2.2).2.2.2.2.2.1
  let fl_36 : Int32 := (lpX2_readSum_12 T_length fS inn (61) 0 r_5 u_1.1 u_4 u_1.2.2.1 u_1.2.2.2.1 u_1.2.2.2.2.1 u_1.2.2.2.2.2).2.2.2.2.2.2.1
  let pf_37 : Nat → Int32 := (lpX2_readSum_12 T_length fS inn (61) 0 r_5 u_1.1 u_4 u_1.2.2.1 u_1.2.2.2.1 u_1.2.2.2.2.1 u_1.2.2.2.2.2).2.2.2.2.2.2.2
  (wc_32, at__33, wf_34, cn_35, fl_36, pf_37)) : Int32 × Int32 × (Nat → Int32) × Int32 × Int32 × (Nat → Int32))) er_5.symm).trans ((congrArg (fun (u_4 : Int32) => ((let i_30 : Int32 := (lpX2_readSum_12 T_length fS inn (61) 0 r_5 u_1.1 u_4 u_1.2.2.1 u_1.2.2.2.1 u_1.2.2.2.2.1 u_1.2.2.2.2.2).1
  let sg_31 : Int32 := (lpX2_readSum_12 T_length fS inn (61) 0 r_5 u_1.1 u_4 u_1.2.2.1 u_1.2.2.2.1 u_1.2.2.2.2.1 u_1.2.2.2.2.2).2.1
  let wc_32 : Int32 := (lpX2_readSum_12 T_length fS inn (61) 0 r_5 u_1.1 u_4 u_1.2.2.1 u_1.2.2.2.1 u_1.2.2.2.2.1 u_1.2.2.2.2.2).2.2.1
  let at__33 : Int32 := (lpX2_readSum_12 T_length fS inn (61) 0 r_5 u_1.1 u_4 u_1.2.2.1 u_1.2.2.2.1 u_1.2.2.2.2.1 u_1.2.2.2.2.2).2.2.2.1
  let wf_34 : Nat → Int32 := (lpX2_readSum_12 T_length fS inn (61) 0 r_5 u_1.1 u_4 u_1.2.2.1 u_1.2.2.2.1 u_1.2.2.2.2.1 u_1.2.2.2.2.2).2.2.2.2.1
  let cn_35 : Int32 := (lpX2_readSum_12 T_length fS inn (61) 0 r_5 u_1.1 u_4 u_1.2.2.1 u_1.2.2.2.1 u_1.2.2.2.2.1 u_1.2.2.2.2.2).2.2.2.2.2.1
  let fl_36 : Int32 := (lpX2_readSum_12 T_length fS inn (61) 0 r_5 u_1.1 u_4 u_1.2.2.1 u_1.2.2.2.1 u_1.2.2.2.2.1 u_1.2.2.2.2.2).2.2.2.2.2.2.1
  let pf_37 : Nat → Int32 := (lpX2_readSum_12 T_length fS inn (61) 0 r_5 u_1.1 u_4 u_1.2.2.1 u_1.2.2.2.1 u_1.2.2.2.2.1 u_1.2.2.2.2.2).2.2.2.2.2.2.2
  (wc_32, at__33, wf_34, cn_35, fl_36, pf_37)) : Int32 × Int32 × (Nat → Int32) × Int32 × Int32 × (Nat → Int32))) eu_4.symm).trans ((congrArg (fun (i_9 : Int32) => ((let sg_31 : Int32 := (lpX2_readSum_12 T_length fS inn (61) 0 r_5 u_1.1 u_4 u_1.2.2.1 u_1.2.2.2.1 u_1.2.2.2.2.1 u_1.2.2.2.2.2).2.1
  let wc_32 : Int32 := (lpX2_readSum_12 T_length fS inn (61) 0 r_5 u_1.1 u_4 u_1.2.2.1 u_1.2.2.2.1 u_1.2.2.2.2.1 u_1.2.2.2.2.2).2.2.1
  let at__33 : Int32 := (lpX2_readSum_12 T_length fS inn (61) 0 r_5 u_1.1 u_4 u_1.2.2.1 u_1.2.2.2.1 u_1.2.2.2.2.1 u_1.2.2.2.2.2).2.2.2.1
  let wf_34 : Nat → Int32 := (lpX2_readSum_12 T_length fS inn (61) 0 r_5 u_1.1 u_4 u_1.2.2.1 u_1.2.2.2.1 u_1.2.2.2.2.1 u_1.2.2.2.2.2).2.2.2.2.1
  let cn_35 : Int32 := (lpX2_readSum_12 T_length fS inn (61) 0 r_5 u_1.1 u_4 u_1.2.2.1 u_1.2.2.2.1 u_1.2.2.2.2.1 u_1.2.2.2.2.2).2.2.2.2.2.1
  let fl_36 : Int32 := (lpX2_readSum_12 T_length fS inn (61) 0 r_5 u_1.1 u_4 u_1.2.2.1 u_1.2.2.2.1 u_1.2.2.2.2.1 u_1.2.2.2.2.2).2.2.2.2.2.2.1
  let pf_37 : Nat → Int32 := (lpX2_readSum_12 T_length fS inn (61) 0 r_5 u_1.1 u_4 u_1.2.2.1 u_1.2.2.2.1 u_1.2.2.2.2.1 u_1.2.2.2.2.2).2.2.2.2.2.2.2
  (wc_32, at__33, wf_34, cn_35, fl_36, pf_37)) : Int32 × Int32 × (Nat → Int32) × Int32 × Int32 × (Nat → Int32))) ei_9.symm).trans ((congrArg (fun (sg_10 : Int32) => ((let wc_32 : Int32 := (lpX2_readSum_12 T_length fS inn (61) 0 r_5 u_1.1 u_4 u_1.2.2.1 u_1.2.2.2.1 u_1.2.2.2.2.1 u_1.2.2.2.2.2).2.2.1
  let at__33 : Int32 := (lpX2_readSum_12 T_length fS inn (61) 0 r_5 u_1.1 u_4 u_1.2.2.1 u_1.2.2.2.1 u_1.2.2.2.2.1 u_1.2.2.2.2.2).2.2.2.1
  let wf_34 : Nat → Int32 := (lpX2_readSum_12 T_length fS inn (61) 0 r_5 u_1.1 u_4 u_1.2.2.1 u_1.2.2.2.1 u_1.2.2.2.2.1 u_1.2.2.2.2.2).2.2.2.2.1
  let cn_35 : Int32 := (lpX2_readSum_12 T_length fS inn (61) 0 r_5 u_1.1 u_4 u_1.2.2.1 u_1.2.2.2.1 u_1.2.2.2.2.1 u_1.2.2.2.2.2).2.2.2.2.2.1
  let fl_36 : Int32 := (lpX2_readSum_12 T_length fS inn (61) 0 r_5 u_1.1 u_4 u_1.2.2.1 u_1.2.2.2.1 u_1.2.2.2.2.1 u_1.2.2.2.2.2).2.2.2.2.2.2.1
  let pf_37 : Nat → Int32 := (lpX2_readSum_12 T_length fS inn (61) 0 r_5 u_1.1 u_4 u_1.2.2.1 u_1.2.2.2.1 u_1.2.2.2.2.1 u_1.2.2.2.2.2).2.2.2.2.2.2.2
  (wc_32, at__33, wf_34, cn_35, fl_36, pf_37)) : Int32 × Int32 × (Nat → Int32) × Int32 × Int32 × (Nat → Int32))) esg_10.symm).trans ((congrArg (fun (wc_11 : Int32) => ((let at__33 : Int32 := (lpX2_readSum_12 T_length fS inn (61) 0 r_5 u_1.1 u_4 u_1.2.2.1 u_1.2.2.2.1 u_1.2.2.2.2.1 u_1.2.2.2.2.2).2.2.2.1
  let wf_34 : Nat → Int32 := (lpX2_readSum_12 T_length fS inn (61) 0 r_5 u_1.1 u_4 u_1.2.2.1 u_1.2.2.2.1 u_1.2.2.2.2.1 u_1.2.2.2.2.2).2.2.2.2.1
  let cn_35 : Int32 := (lpX2_readSum_12 T_length fS inn (61) 0 r_5 u_1.1 u_4 u_1.2.2.1 u_1.2.2.2.1 u_1.2.2.2.2.1 u_1.2.2.2.2.2).2.2.2.2.2.1
  let fl_36 : Int32 := (lpX2_readSum_12 T_length fS inn (61) 0 r_5 u_1.1 u_4 u_1.2.2.1 u_1.2.2.2.1 u_1.2.2.2.2.1 u_1.2.2.2.2.2).2.2.2.2.2.2.1
  let pf_37 : Nat → Int32 := (lpX2_readSum_12 T_length fS inn (61) 0 r_5 u_1.1 u_4 u_1.2.2.1 u_1.2.2.2.1 u_1.2.2.2.2.1 u_1.2.2.2.2.2).2.2.2.2.2.2.2
  (wc_11, at__33, wf_34, cn_35, fl_36, pf_37)) : Int32 × Int32 × (Nat → Int32) × Int32 × Int32 × (Nat → Int32))) ewc_11.symm).trans ((congrArg (fun (at__12 : Int32) => ((let wf_34 : Nat → Int32 := (lpX2_readSum_12 T_length fS inn (61) 0 r_5 u_1.1 u_4 u_1.2.2.1 u_1.2.2.2.1 u_1.2.2.2.2.1 u_1.2.2.2.2.2).2.2.2.2.1
  let cn_35 : Int32 := (lpX2_readSum_12 T_length fS inn (61) 0 r_5 u_1.1 u_4 u_1.2.2.1 u_1.2.2.2.1 u_1.2.2.2.2.1 u_1.2.2.2.2.2).2.2.2.2.2.1
  let fl_36 : Int32 := (lpX2_readSum_12 T_length fS inn (61) 0 r_5 u_1.1 u_4 u_1.2.2.1 u_1.2.2.2.1 u_1.2.2.2.2.1 u_1.2.2.2.2.2).2.2.2.2.2.2.1
  let pf_37 : Nat → Int32 := (lpX2_readSum_12 T_length fS inn (61) 0 r_5 u_1.1 u_4 u_1.2.2.1 u_1.2.2.2.1 u_1.2.2.2.2.1 u_1.2.2.2.2.2).2.2.2.2.2.2.2
  (wc_11, at__12, wf_34, cn_35, fl_36, pf_37)) : Int32 × Int32 × (Nat → Int32) × Int32 × Int32 × (Nat → Int32))) eat__12.symm).trans ((congrArg (fun (wf_13 : Nat → Int32) => ((let cn_35 : Int32 := (lpX2_readSum_12 T_length fS inn (61) 0 r_5 u_1.1 u_4 u_1.2.2.1 u_1.2.2.2.1 u_1.2.2.2.2.1 u_1.2.2.2.2.2).2.2.2.2.2.1
  let fl_36 : Int32 := (lpX2_readSum_12 T_length fS inn (61) 0 r_5 u_1.1 u_4 u_1.2.2.1 u_1.2.2.2.1 u_1.2.2.2.2.1 u_1.2.2.2.2.2).2.2.2.2.2.2.1
  let pf_37 : Nat → Int32 := (lpX2_readSum_12 T_length fS inn (61) 0 r_5 u_1.1 u_4 u_1.2.2.1 u_1.2.2.2.1 u_1.2.2.2.2.1 u_1.2.2.2.2.2).2.2.2.2.2.2.2
  (wc_11, at__12, wf_13, cn_35, fl_36, pf_37)) : Int32 × Int32 × (Nat → Int32) × Int32 × Int32 × (Nat → Int32))) ewf_13.symm).trans ((congrArg (fun (cn_14 : Int32) => ((let fl_36 : Int32 := (lpX2_readSum_12 T_length fS inn (61) 0 r_5 u_1.1 u_4 u_1.2.2.1 u_1.2.2.2.1 u_1.2.2.2.2.1 u_1.2.2.2.2.2).2.2.2.2.2.2.1
  let pf_37 : Nat → Int32 := (lpX2_readSum_12 T_length fS inn (61) 0 r_5 u_1.1 u_4 u_1.2.2.1 u_1.2.2.2.1 u_1.2.2.2.2.1 u_1.2.2.2.2.2).2.2.2.2.2.2.2
  (wc_11, at__12, wf_13, cn_14, fl_36, pf_37)) : Int32 × Int32 × (Nat → Int32) × Int32 × Int32 × (Nat → Int32))) ecn_14.symm).trans ((congrArg (fun (fl_15 : Int32) => ((let pf_37 : Nat → Int32 := (lpX2_readSum_12 T_length fS inn (61) 0 r_5 u_1.1 u_4 u_1.2.2.1 u_1.2.2.2.1 u_1.2.2.2.2.1 u_1.2.2.2.2.2).2.2.2.2.2.2.2
  (wc_11, at__12, wf_13, cn_14, fl_15, pf_37)) : Int32 × Int32 × (Nat → Int32) × Int32 × Int32 × (Nat → Int32))) efl_15.symm).trans ((congrArg (fun (pf_16 : Nat → Int32) => (((wc_11, at__12, wf_13, cn_14, fl_15, pf_16)) : Int32 × Int32 × (Nat → Int32) × Int32 × Int32 × (Nat → Int32))) epf_16.symm)))))))))))).symm
      have en_0 : 0 ≤ at__12.toInt := by first | assumption | omega
      have en_1 : at__12.toInt ≤ 60 := by first | assumption | omega
      have en_2 : 0 ≤ wc_11.toInt := by first | assumption | omega
      have en_3 : wc_11.toInt ≤ 60 := by first | assumption | omega
      have en_4 : 0 ≤ cn_14.toInt := by first | assumption | omega
      have en_5 : cn_14.toInt ≤ 60 := by first | assumption | omega
      exact kk_ev hx hb hr hlocks hK hq [2, 0, 3, 4, 5, 1] (wc_11, at__12, wf_13, cn_14, fl_15, pf_16) rfl (by decide) dX2_readSum_64 ⟨hf, en_0, en_1, en_2, en_3, en_4, en_5⟩
    · skip
      have hi6 := kk_nle (k := 60) rfl c_7
      refine lv_iload_n hx hb dX2_readSum_18 rfl (lv_at hl 1 rfl) ?_
      refine lv_bipush (v := 43) hx hb dX2_readSum_19 (by decide) ?_
      refine lv_icmp_eq (tgt := 30) hx hb dX2_readSum_21 (by decide) (fun c_17 => ?_) (fun c_17 => ?_)
      · skip
        have hlt := nx_use nx c_17 (by decide)
        refine lv_aload_n hx hb dX2_readSum_30 rfl (lv_at hl 2 rfl) ?_
        refine lv_dup hx hb dX2_readSum_31 rfl ?_
        refine kk_get (ci := 2) (v := .int at_) (C := RX2) (T := TX2) (N := 5) hx hb hts iX2 hown hK hq 2 rfl rfl 4 (by decide) lk0_ rfl dX2_readSum_32 ?_
        refine lv_iconst (v := 1) hx hb dX2_readSum_35 (by decide) ?_
        refine lv_iadd hx hb dX2_readSum_36 ?_
        refine lv_topi (fun at_18 eat_18 => ?_)
        refine kk_put (ws' := [(aW, .inl (cW, 60, .inl wf)), (aP, .inl (cP, 60, .inl pf)), (aR, .inr (2, [.ref aW, .int wc, .ref aT, .ref aL, .int at_18])), (aT, .inr (5, [.ref aS, .int T_length])), (aS, .inl (cS, 60, .inl fS)), (aL, .inr (1, [.ref aP, .int cn, .int fl, .ref rL_values, .int L_top]))]) (ci := 2) (v := .int at_18) (C := RX2) (T := TX2) (N := 5) hx hb hts iX2 tyX2_ok nmX2 hown hK hq 2 rfl rfl 4 (by decide) lk0_ rfl rfl rfl (Nat.le_of_ble_eq_true rfl) dX2_readSum_37 rfl (fun H locs hq => ?_)
        have hat_18 := at_inc eat_18 (by assumption) hlt
        have q0at_18 : 0 ≤ at_18.toInt := hat_18.1
        have q1at_18 : at_18.toInt ≤ 60 := hat_18.2
        refine lv_aload_n hx hb dX2_readSum_40 rfl (lv_at hl 2 rfl) ?_
        refine lv_iload_n hx hb dX2_readSum_41 rfl (lv_at hl 3 rfl) ?_
        refine kk_Vv (As := [.int p1]) (rest := []) (wr := []) ⟨hx, hb, hml, hown, hts⟩ (c_X2_readTerm l G aR aW aT aS aL aP rL_values cW cS cP F Q p1 wc at_18 wf T_length fS cn fl L_top pf inn (by assumption) (by assumption) (by assumption) (by assumption) (by assumption) (by assumption) (by assumption) (by assumption)) (kk_cwV 1 hts hsb wd_245 wd_246 wd_247 wd_25 wd_248 rfl rfl hd_X2_readTerm ⟨by dsimp only [headSpec]; omega, by dsimp only [headSpec]; omega⟩) hA hK hq [2, 0, 3, 4, 5, 1] [] [0, 1, 2] rfl rfl rfl (by decide) (by decide) (by decide) 0 2 rfl rfl rfl rfl hl.1 rfl (Nat.le_of_ble_eq_true rfl) dX2_readSum_42 ⟨Nat.zero_le _, Nat.zero_le _⟩ (fun u_19 H locs h_21 hq => ?_)
        obtain ⟨eu_19, q0_u_19, q1_u_19, w0_u_19, w1_u_19, k0_u_19, k1_u_19⟩ := h_21
        have hq : kAt G A s [(aR, .inr (2, [.ref aW, .int u_19.1, .ref aT, .ref aL, .int u_19.2.1])), (aW, .inl (cW, 60, .inl u_19.2.2.1)), (aT, .inr (5, [.ref aS, .int T_length])), (aS, .inl (cS, 60, .inl fS)), (aL, .inr (1, [.ref aP, .int u_19.2.2.2.1, .int u_19.2.2.2.2.1, .ref rL_values, .int L_top])), (aP, .inl (cP, 60, .inl u_19.2.2.2.2.2))] H locs := hq
        refine lv_aload_n hx hb dX2_readSum_45 rfl (lv_at hl 2 rfl) ?_
        refine kk_get (ci := 2) (v := .ref aL) (C := RX2) (T := TX2) (N := 5) hx hb hts iX2 hown hK hq 0 rfl rfl 3 (by decide) lk1_ rfl dX2_readSum_46 ?_
        refine lv_iload_n hx hb dX2_readSum_49 rfl (lv_at hl 1 rfl) ?_
        refine kk_Vv (As := [.int sg]) (rest := []) (wr := [(aR, .inr (2, [.ref aW, .int u_19.1, .ref aT, .ref aL, .int u_19.2.1])), (aW, .inl (cW, 60, .inl u_19.2.2.1)), (aT, .inr (5, [.ref aS, .int T_length])), (aS, .inl (cS, 60, .inl fS))]) ⟨hx, hb, hml, hown, hts⟩ (c_X1_addSign l G aL aP rL_values cP sg u_19.2.2.2.1 u_19.2.2.2.2.1 L_top u_19.2.2.2.2.2 (by assumption) (by assumption)) (kk_cwV 1 hts hsb wd_205 wd_206 wd_207 wd_21 wd_208 rfl rfl hd_X1_addSign ⟨by dsimp only [headSpec]; omega, by dsimp only [headSpec]; omega⟩) hA hK hq [4, 5] [0, 1, 2, 3] [2] rfl rfl rfl (by decide) (by decide) (by decide) 0 1 rfl rfl rfl rfl hl.1 rfl (Nat.le_of_ble_eq_true rfl) dX2_readSum_50 ⟨Nat.zero_le _, Nat.zero_le _⟩ (fun u_22 H locs h_24 hq => ?_)
        obtain ⟨eu_22, k0_u_22, k1_u_22⟩ := h_24
        have hq : kAt G A s [(aR, .inr (2, [.ref aW, .int u_19.1, .ref aT, .ref aL, .int u_19.2.1])), (aW, .inl (cW, 60, .inl u_19.2.2.1)), (aT, .inr (5, [.ref aS, .int T_length])), (aS, .inl (cS, 60, .inl fS)), (aL, .inr (1, [.ref aP, .int u_22.1, .int u_19.2.2.2.2.1, .ref rL_values, .int L_top])), (aP, .inl (cP, 60, .inl u_22.2))] H locs := hq
        refine lv_aload_n hx hb dX2_readSum_53 rfl (lv_at hl 2 rfl) ?_
        refine kk_Vi (As := []) (rest := []) (wr := [(aW, .inl (cW, 60, .inl u_19.2.2.1)), (aP, .inl (cP, 60, .inl u_22.2))]) ⟨hx, hb, hml, hown, hts⟩ (c_X2_nextSign l G aR aT aS aL aW aP rL_values cS u_19.1 u_19.2.1 T_length fS u_22.1 u_19.2.2.2.2.1 L_top (by assumption) (by assumption) (by assumption)) (kk_cwV 0 hts hsb wd_195 wd_196 wd_197 wd_25 wd_198 rfl rfl hd_X2_nextSign ⟨by dsimp only [headSpec]; omega, by dsimp only [headSpec]; omega⟩) hA hK hq [0, 2, 3, 4] [1, 5] [1] rfl rfl rfl (by decide) (by decide) (by decide) 0 2 rfl rfl rfl rfl hl.1 rfl (Nat.le_of_ble_eq_true rfl) dX2_readSum_54 ⟨Nat.zero_le _, Nat.zero_le _⟩ (fun r_26 u_25 H locs h_27 hq => ?_)
        obtain ⟨er_26, eu_25, q0_u_25, q1_u_25, nx_u_25⟩ := h_27
        have hq : kAt G A s [(aW, .inl (cW, 60, .inl u_19.2.2.1)), (aP, .inl (cP, 60, .inl u_22.2)), (aR, .inr (2, [.ref aW, .int u_19.1, .ref aT, .ref aL, .int u_25])), (aT, .inr (5, [.ref aS, .int T_length])), (aS, .inl (cS, 60, .inl fS)), (aL, .inr (1, [.ref aP, .int u_22.1, .int u_19.2.2.2.2.1, .ref rL_values, .int L_top]))] H locs := hq
        refine lv_istore_n (lv' := [(2, .int r_26), (3, .int i), (0, .ref aR), (1, .int p1)]) hx hb dX2_readSum_57 rfl hl (by decide) rfl (fun ls hl => ?_)
        refine lv_iinc (v := i + 1) (lv' := [(3, .int (i + 1)), (2, .int r_26), (0, .ref aR), (1, .int p1)]) hx hb dX2_readSum_58 hl (k := 1) rfl rfl (by decide) rfl (fun ls hl => ?_)
        refine lv_goto (tgt := 12) hx hb dX2_readSum_61 (by decide) ?_
        exact ih (i + 1) r_26 u_19.1 u_25 u_19.2.2.1 u_22.1 u_19.2.2.2.2.1 u_22.2 _ _ _ ⟨(hrel.trans ((if_neg c_7).trans ((if_pos c_17).trans ((congrArg (fun (at_18 : Int32) => ((let u_10 : Int32 × Int32 × (Nat → Int32) × Int32 × Int32 × (Nat → Int32) := fX2_readTerm inn wc at_18 wf T_length fS cn fl pf
    let u_13 : Int32 × (Nat → Int32) := fX1_addSign sg u_10.2.2.2.1 u_10.2.2.2.2.2
    let r_17 : Int32 := (fX2_nextSign u_10.2.1 T_length fS u_10.2.2.2.2.1).1
    let u_16 : Int32 := (fX2_nextSign u_10.2.1 T_length fS u_10.2.2.2.2.1).2
    lpX2_readSum_12 T_length fS inn N (i + 1) r_17 u_10.1 u_16 u_10.2.2.1 u_13.1 u_10.2.2.2.2.1 u_13.2) : Int32 × Int32 × Int32 × Int32 × (Nat → Int32) × Int32 × Int32 × (Nat → Int32))) eat_18.symm).trans ((congrArg (fun (u_19 : Int32 × Int32 × (Nat → Int32) × Int32 × Int32 × (Nat → Int32)) => ((let u_13 : Int32 × (Nat → Int32) := fX1_addSign sg u_19.2.2.2.1 u_19.2.2.2.2.2
    let r_17 : Int32 := (fX2_nextSign u_19.2.1 T_length fS u_19.2.2.2.2.1).1
    let u_16 : Int32 := (fX2_nextSign u_19.2.1 T_length fS u_19.2.2.2.2.1).2
    lpX2_readSum_12 T_length fS inn N (i + 1) r_17 u_19.1 u_16 u_19.2.2.1 u_13.1 u_19.2.2.2.2.1 u_13.2) : Int32 × Int32 × Int32 × Int32 × (Nat → Int32) × Int32 × Int32 × (Nat → Int32))) eu_19.symm).trans ((congrArg (fun (u_22 : Int32 × (Nat → Int32)) => ((let r_17 : Int32 := (fX2_nextSign u_19.2.1 T_length fS u_19.2.2.2.2.1).1
    let u_16 : Int32 := (fX2_nextSign u_19.2.1 T_length fS u_19.2.2.2.2.1).2
    lpX2_readSum_12 T_length fS inn N (i + 1) r_17 u_19.1 u_16 u_19.2.2.1 u_22.1 u_19.2.2.2.2.1 u_22.2) : Int32 × Int32 × Int32 × Int32 × (Nat → Int32) × Int32 × Int32 × (Nat → Int32))) eu_22.symm).trans ((congrArg (fun (r_26 : Int32) => ((let u_16 : Int32 := (fX2_nextSign u_19.2.1 T_length fS u_19.2.2.2.2.1).2
    lpX2_readSum_12 T_length fS inn N (i + 1) r_26 u_19.1 u_16 u_19.2.2.1 u_22.1 u_19.2.2.2.2.1 u_22.2) : Int32 × Int32 × Int32 × Int32 × (Nat → Int32) × Int32 × Int32 × (Nat → Int32))) er_26.symm).trans ((congrArg (fun (u_25 : Int32) => ((lpX2_readSum_12 T_length fS inn N (i + 1) r_26 u_19.1 u_25 u_19.2.2.1 u_22.1 u_19.2.2.2.2.1 u_22.2) : Int32 × Int32 × Int32 × Int32 × (Nat → Int32) × Int32 × Int32 × (Nat → Int32))) eu_25.symm))))))))), (by have := kk_inc (x := i) (by omega); omega), (by have := kk_inc (x := i) (by omega); omega), (by have := kk_inc (x := i) (by omega); omega), (by assumption), (by assumption), (by assumption), (by assumption), (by assumption), (by assumption), (by assumption), lv_sub hl [0, 1, 2, 3] rfl, hq⟩
      · skip
        refine lv_iload_n hx hb dX2_readSum_24 rfl (lv_at hl 1 rfl) ?_
        refine lv_bipush (v := 45) hx hb dX2_readSum_25 (by decide) ?_
        refine lv_icmp_ne (tgt := 64) hx hb dX2_readSum_27 (by decide) (fun c_28 => ?_) (fun c_28 => ?_)
        · skip
          have hx_29 : ((i, sg, wc, at_, wf, cn, fl, pf) : Int32 × Int32 × Int32 × Int32 × (Nat → Int32) × Int32 × Int32 × (Nat → Int32)) = lpX2_readSum_12 T_length fS inn (61) 0 r_5 u_1.1 u_4 u_1.2.2.1 u_1.2.2.2.1 u_1.2.2.2.2.1 u_1.2.2.2.2.2 := (hrel.trans ((if_neg c_7).trans ((if_neg c_17).trans ((if_neg c_28))))).symm
          obtain ⟨i_30, gi_30⟩ : ∃ z : Int32, z = i := ⟨_, rfl⟩
          have ei_30 : i_30 = (lpX2_readSum_12 T_length fS inn (61) 0 r_5 u_1.1 u_4 u_1.2.2.1 u_1.2.2.2.1 u_1.2.2.2.2.1 u_1.2.2.2.2.2).1 := gi_30.trans (congrArg (fun z : Int32 × Int32 × Int32 × Int32 × (Nat → Int32) × Int32 × Int32 × (Nat → Int32) => z.1) hx_29)
          obtain ⟨sg_31, gsg_31⟩ : ∃ z : Int32, z = sg := ⟨_, rfl⟩
          have esg_31 : sg_31 = (lpX2_readSum_12 T_length fS inn (61) 0 r_5 u_1.1 u_4 u_1.2.2.1 u_1.2.2.2.1 u_1.2.2.2.2.1 u_1.2.2.2.2.2).2.1 := gsg_31.trans (congrArg (fun z : Int32 × Int32 × Int32 × Int32 × (Nat → Int32) × Int32 × Int32 × (Nat → Int32) => z.2.1) hx_29)
          obtain ⟨wc_32, gwc_32⟩ : ∃ z : Int32, z = wc := ⟨_, rfl⟩
          have ewc_32 : wc_32 = (lpX2_readSum_12 T_length fS inn (61) 0 r_5 u_1.1 u_4 u_1.2.2.1 u_1.2.2.2.1 u_1.2.2.2.2.1 u_1.2.2.2.2.2).2.2.1 := gwc_32.trans (congrArg (fun z : Int32 × Int32 × Int32 × Int32 × (Nat → Int32) × Int32 × Int32 × (Nat → Int32) => z.2.2.1) hx_29)
          obtain ⟨at__33, gat__33⟩ : ∃ z : Int32, z = at_ := ⟨_, rfl⟩
          have eat__33 : at__33 = (lpX2_readSum_12 T_length fS inn (61) 0 r_5 u_1.1 u_4 u_1.2.2.1 u_1.2.2.2.1 u_1.2.2.2.2.1 u_1.2.2.2.2.2).2.2.2.1 := gat__33.trans (congrArg (fun z : Int32 × Int32 × Int32 × Int32 × (Nat → Int32) × Int32 × Int32 × (Nat → Int32) => z.2.2.2.1) hx_29)
          obtain ⟨wf_34, gwf_34⟩ : ∃ z : Nat → Int32, z = wf := ⟨_, rfl⟩
          have ewf_34 : wf_34 = (lpX2_readSum_12 T_length fS inn (61) 0 r_5 u_1.1 u_4 u_1.2.2.1 u_1.2.2.2.1 u_1.2.2.2.2.1 u_1.2.2.2.2.2).2.2.2.2.1 := gwf_34.trans (congrArg (fun z : Int32 × Int32 × Int32 × Int32 × (Nat → Int32) × Int32 × Int32 × (Nat → Int32) => z.2.2.2.2.1) hx_29)
          obtain ⟨cn_35, gcn_35⟩ : ∃ z : Int32, z = cn := ⟨_, rfl⟩
          have ecn_35 : cn_35 = (lpX2_readSum_12 T_length fS inn (61) 0 r_5 u_1.1 u_4 u_1.2.2.1 u_1.2.2.2.1 u_1.2.2.2.2.1 u_1.2.2.2.2.2).2.2.2.2.2.1 := gcn_35.trans (congrArg (fun z : Int32 × Int32 × Int32 × Int32 × (Nat → Int32) × Int32 × Int32 × (Nat → Int32) => z.2.2.2.2.2.1) hx_29)
          obtain ⟨fl_36, gfl_36⟩ : ∃ z : Int32, z = fl := ⟨_, rfl⟩
          have efl_36 : fl_36 = (lpX2_readSum_12 T_length fS inn (61) 0 r_5 u_1.1 u_4 u_1.2.2.1 u_1.2.2.2.1 u_1.2.2.2.2.1 u_1.2.2.2.2.2).2.2.2.2.2.2.1 := gfl_36.trans (congrArg (fun z : Int32 × Int32 × Int32 × Int32 × (Nat → Int32) × Int32 × Int32 × (Nat → Int32) => z.2.2.2.2.2.2.1) hx_29)
          obtain ⟨pf_37, gpf_37⟩ : ∃ z : Nat → Int32, z = pf := ⟨_, rfl⟩
          have epf_37 : pf_37 = (lpX2_readSum_12 T_length fS inn (61) 0 r_5 u_1.1 u_4 u_1.2.2.1 u_1.2.2.2.1 u_1.2.2.2.2.1 u_1.2.2.2.2.2).2.2.2.2.2.2.2 := gpf_37.trans (congrArg (fun z : Int32 × Int32 × Int32 × Int32 × (Nat → Int32) × Int32 × Int32 × (Nat → Int32) => z.2.2.2.2.2.2.2) hx_29)
          have hl : lv_has ls 4 [(3, .int i_30), (2, .int sg_31), (0, .ref aR), (1, .int p1)] := by subst gi_30 gsg_31 gwc_32 gat__33 gwf_34 gcn_35 gfl_36 gpf_37; exact hl
          have hq : kAt G A s [(aW, .inl (cW, 60, .inl wf_34)), (aP, .inl (cP, 60, .inl pf_37)), (aR, .inr (2, [.ref aW, .int wc_32, .ref aT, .ref aL, .int at__33])), (aT, .inr (5, [.ref aS, .int T_length])), (aS, .inl (cS, 60, .inl fS)), (aL, .inr (1, [.ref aP, .int cn_35, .int fl_36, .ref rL_values, .int L_top]))] H locs := by subst gi_30 gsg_31 gwc_32 gat__33 gwf_34 gcn_35 gfl_36 gpf_37; exact hq
          have q0f : 0 ≤ at__33.toInt := by rw [gat__33]; assumption
          have q1f : at__33.toInt ≤ 60 := by rw [gat__33]; assumption
          have w0f : 0 ≤ wc_32.toInt := by rw [gwc_32]; assumption
          have w1f : wc_32.toInt ≤ 60 := by rw [gwc_32]; assumption
          have k0f : 0 ≤ cn_35.toInt := by rw [gcn_35]; assumption
          have k1f : cn_35.toInt ≤ 60 := by rw [gcn_35]; assumption
          have hf : ((wc_32, at__33, wf_34, cn_35, fl_36, pf_37) : Int32 × Int32 × (Nat → Int32) × Int32 × Int32 × (Nat → Int32)) = fX2_readSum inn R_waitingCount R_at fW T_length fS L_count L_fault fP := by
            exact ((congrArg (fun (u_1 : Int32 × Int32 × (Nat → Int32) × Int32 × Int32 × (Nat → Int32)) => ((let r_5 : Int32 := (fX2_nextSign u_1.2.1 T_length fS u_1.2.2.2.2.1).1
  let u_4 : Int32 := (fX2_nextSign u_1.2.1 T_length fS u_1.2.2.2.2.1).2
  let i_30 : Int32 := (lpX2_readSum_12 T_length fS inn (61) 0 r_5 u_1.1 u_4 u_1.2.2.1 u_1.2.2.2.1 u_1.2.2.2.2.1 u_1.2.2.2.2.2).1
  let sg_31 : Int32 := (lpX2_readSum_12 T_length fS inn (61) 0 r_5 u_1.1 u_4 u_1.2.2.1 u_1.2.2.2.1 u_1.2.2.2.2.1 u_1.2.2.2.2.2).2.1
  let wc_32 : Int32 := (lpX2_readSum_12 T_length fS inn (61) 0 r_5 u_1.1 u_4 u_1.2.2.1 u_1.2.2.2.1 u_1.2.2.2.2.1 u_1.2.2.2.2.2).2.2.1
  let at__33 : Int32 := (lpX2_readSum_12 T_length fS inn (61) 0 r_5 u_1.1 u_4 u_1.2.2.1 u_1.2.2.2.1 u_1.2.2.2.2.1 u_1.2.2.2.2.2).2.2.2.1
  let wf_34 : Nat → Int32 := (lpX2_readSum_12 T_length fS inn (61) 0 r_5 u_1.1 u_4 u_1.2.2.1 u_1.2.2.2.1 u_1.2.2.2.2.1 u_1.2.2.2.2.2).2.2.2.2.1
  let cn_35 : Int32 := (lpX2_readSum_12 T_length fS inn (61) 0 r_5 u_1.1 u_4 u_1.2.2.1 u_1.2.2.2.1 u_1.2.2.2.2.1 u_1.2.2.2.2.2).2.2.2.2.2.1
  let fl_36 : Int32 := (lpX2_readSum_12 T_length fS inn (61) 0 r_5 u_1.1 u_4 u_1.2.2.1 u_1.2.2.2.1 u_1.2.2.2.2.1 u_1.2.2.2.2.2).2.2.2.2.2.2.1
  let pf_37 : Nat → Int32 := (lpX2_readSum_12 T_length fS inn (61) 0 r_5 u_1.1 u_4 u_1.2.2.1 u_1.2.2.2.1 u_1.2.2.2.2.1 u_1.2.2.2.2.2).2.2.2.2.2.2.2
  (wc_32, at__33, wf_34, cn_35, fl_36, pf_37)) : Int32 × Int32 × (Nat → Int32) × Int32 × Int32 × (Nat → Int32))) eu_1.symm).trans ((congrArg (fun (r_5 : Int32) => ((let u_4 : Int32 := (fX2_nextSign u_1.2.1 T_length fS u_1.2.2.2.2.1).2
  let i_30 : Int32 := (lpX2_readSum_12 T_length fS inn (61) 0 r_5 u_1.1 u_4 u_1.2.2.1 u_1.2.2.2.1 u_1.2.2.2.2.1 u_1.2.2.2.2.2).1
  let sg_31 : Int32 := (lpX2_readSum_12 T_length fS inn (61) 0 r_5 u_1.1 u_4 u_1.2.2.1 u_1.2.2.2.1 u_1.2.2.2.2.1 u_1.2.2.2.2.2).2.1
  let wc_32 : Int32 := (lpX2_readSum_12 T_length fS inn (61) 0 r_5 u_1.1 u_4 u_1.2.2.1 u_1.2.2.2.1 u_1.2.2.2.2.1 u_1.2.2.2.2.2).2.2.1
  let at__33 : Int32 := (lpX2_readSum_12 T_length fS inn (61) 0 r_5 u_1.1 u_4 u_1.2.2.1 u_1.2.2.2.1 u_1.2.2.2.2.1 u_1.2.2.2.2.2).2.2.2.1
  let wf_34 : Nat → Int32 := (lpX2_readSum_12 T_length fS inn (61) 0 r_5 u_1.1 u_4 u_1.2.2.1 u_1.2.2.2.1 u_1.2.2.2.2.1 u_1.2.2.2.2.2).2.2.2.2.1
  let cn_35 : Int32 := (lpX2_readSum_12 T_length fS inn (61) 0 r_5 u_1.1 u_4 u_1.2.2.1 u_1.2.2.2.1 u_1.2.2.2.2.1 u_1.2.2.2.2.2).2.2.2.2.2.1
  let fl_36 : Int32 := (lpX2_readSum_12 T_length fS inn (61) 0 r_5 u_1.1 u_4 u_1.2.2.1 u_1.2.2.2.1 u_1.2.2.2.2.1 u_1.2.2.2.2.2).2.2.2.2.2.2.1
  let pf_37 : Nat → Int32 := (lpX2_readSum_12 T_length fS inn (61) 0 r_5 u_1.1 u_4 u_1.2.2.1 u_1.2.2.2.1 u_1.2.2.2.2.1 u_1.2.2.2.2.2).2.2.2.2.2.2.2
  (wc_32, at__33, wf_34, cn_35, fl_36, pf_37)) : Int32 × Int32 × (Nat → Int32) × Int32 × Int32 × (Nat → Int32))) er_5.symm).trans ((congrArg (fun (u_4 : Int32) => ((let i_30 : Int32 := (lpX2_readSum_12 T_length fS inn (61) 0 r_5 u_1.1 u_4 u_1.2.2.1 u_1.2.2.2.1 u_1.2.2.2.2.1 u_1.2.2.2.2.2).1
  let sg_31 : Int32 := (lpX2_readSum_12 T_length fS inn (61) 0 r_5 u_1.1 u_4 u_1.2.2.1 u_1.2.2.2.1 u_1.2.2.2.2.1 u_1.2.2.2.2.2).2.1
  let wc_32 : Int32 := (lpX2_readSum_12 T_length fS inn (61) 0 r_5 u_1.1 u_4 u_1.2.2.1 u_1.2.2.2.1 u_1.2.2.2.2.1 u_1.2.2.2.2.2).2.2.1
  let at__33 : Int32 := (lpX2_readSum_12 T_length fS inn (61) 0 r_5 u_1.1 u_4 u_1.2.2.1 u_1.2.2.2.1 u_1.2.2.2.2.1 u_1.2.2.2.2.2).2.2.2.1
  let wf_34 : Nat → Int32 := (lpX2_readSum_12 T_length fS inn (61) 0 r_5 u_1.1 u_4 u_1.2.2.1 u_1.2.2.2.1 u_1.2.2.2.2.1 u_1.2.2.2.2.2).2.2.2.2.1
  let cn_35 : Int32 := (lpX2_readSum_12 T_length fS inn (61) 0 r_5 u_1.1 u_4 u_1.2.2.1 u_1.2.2.2.1 u_1.2.2.2.2.1 u_1.2.2.2.2.2).2.2.2.2.2.1
  let fl_36 : Int32 := (lpX2_readSum_12 T_length fS inn (61) 0 r_5 u_1.1 u_4 u_1.2.2.1 u_1.2.2.2.1 u_1.2.2.2.2.1 u_1.2.2.2.2.2).2.2.2.2.2.2.1
  let pf_37 : Nat → Int32 := (lpX2_readSum_12 T_length fS inn (61) 0 r_5 u_1.1 u_4 u_1.2.2.1 u_1.2.2.2.1 u_1.2.2.2.2.1 u_1.2.2.2.2.2).2.2.2.2.2.2.2
  (wc_32, at__33, wf_34, cn_35, fl_36, pf_37)) : Int32 × Int32 × (Nat → Int32) × Int32 × Int32 × (Nat → Int32))) eu_4.symm).trans ((congrArg (fun (i_30 : Int32) => ((let sg_31 : Int32 := (lpX2_readSum_12 T_length fS inn (61) 0 r_5 u_1.1 u_4 u_1.2.2.1 u_1.2.2.2.1 u_1.2.2.2.2.1 u_1.2.2.2.2.2).2.1
  let wc_32 : Int32 := (lpX2_readSum_12 T_length fS inn (61) 0 r_5 u_1.1 u_4 u_1.2.2.1 u_1.2.2.2.1 u_1.2.2.2.2.1 u_1.2.2.2.2.2).2.2.1
  let at__33 : Int32 := (lpX2_readSum_12 T_length fS inn (61) 0 r_5 u_1.1 u_4 u_1.2.2.1 u_1.2.2.2.1 u_1.2.2.2.2.1 u_1.2.2.2.2.2).2.2.2.1
  let wf_34 : Nat → Int32 := (lpX2_readSum_12 T_length fS inn (61) 0 r_5 u_1.1 u_4 u_1.2.2.1 u_1.2.2.2.1 u_1.2.2.2.2.1 u_1.2.2.2.2.2).2.2.2.2.1
  let cn_35 : Int32 := (lpX2_readSum_12 T_length fS inn (61) 0 r_5 u_1.1 u_4 u_1.2.2.1 u_1.2.2.2.1 u_1.2.2.2.2.1 u_1.2.2.2.2.2).2.2.2.2.2.1
  let fl_36 : Int32 := (lpX2_readSum_12 T_length fS inn (61) 0 r_5 u_1.1 u_4 u_1.2.2.1 u_1.2.2.2.1 u_1.2.2.2.2.1 u_1.2.2.2.2.2).2.2.2.2.2.2.1
  let pf_37 : Nat → Int32 := (lpX2_readSum_12 T_length fS inn (61) 0 r_5 u_1.1 u_4 u_1.2.2.1 u_1.2.2.2.1 u_1.2.2.2.2.1 u_1.2.2.2.2.2).2.2.2.2.2.2.2
  (wc_32, at__33, wf_34, cn_35, fl_36, pf_37)) : Int32 × Int32 × (Nat → Int32) × Int32 × Int32 × (Nat → Int32))) ei_30.symm).trans ((congrArg (fun (sg_31 : Int32) => ((let wc_32 : Int32 := (lpX2_readSum_12 T_length fS inn (61) 0 r_5 u_1.1 u_4 u_1.2.2.1 u_1.2.2.2.1 u_1.2.2.2.2.1 u_1.2.2.2.2.2).2.2.1
  let at__33 : Int32 := (lpX2_readSum_12 T_length fS inn (61) 0 r_5 u_1.1 u_4 u_1.2.2.1 u_1.2.2.2.1 u_1.2.2.2.2.1 u_1.2.2.2.2.2).2.2.2.1
  let wf_34 : Nat → Int32 := (lpX2_readSum_12 T_length fS inn (61) 0 r_5 u_1.1 u_4 u_1.2.2.1 u_1.2.2.2.1 u_1.2.2.2.2.1 u_1.2.2.2.2.2).2.2.2.2.1
  let cn_35 : Int32 := (lpX2_readSum_12 T_length fS inn (61) 0 r_5 u_1.1 u_4 u_1.2.2.1 u_1.2.2.2.1 u_1.2.2.2.2.1 u_1.2.2.2.2.2).2.2.2.2.2.1
  let fl_36 : Int32 := (lpX2_readSum_12 T_length fS inn (61) 0 r_5 u_1.1 u_4 u_1.2.2.1 u_1.2.2.2.1 u_1.2.2.2.2.1 u_1.2.2.2.2.2).2.2.2.2.2.2.1
  let pf_37 : Nat → Int32 := (lpX2_readSum_12 T_length fS inn (61) 0 r_5 u_1.1 u_4 u_1.2.2.1 u_1.2.2.2.1 u_1.2.2.2.2.1 u_1.2.2.2.2.2).2.2.2.2.2.2.2
  (wc_32, at__33, wf_34, cn_35, fl_36, pf_37)) : Int32 × Int32 × (Nat → Int32) × Int32 × Int32 × (Nat → Int32))) esg_31.symm).trans ((congrArg (fun (wc_32 : Int32) => ((let at__33 : Int32 := (lpX2_readSum_12 T_length fS inn (61) 0 r_5 u_1.1 u_4 u_1.2.2.1 u_1.2.2.2.1 u_1.2.2.2.2.1 u_1.2.2.2.2.2).2.2.2.1
  let wf_34 : Nat → Int32 := (lpX2_readSum_12 T_length fS inn (61) 0 r_5 u_1.1 u_4 u_1.2.2.1 u_1.2.2.2.1 u_1.2.2.2.2.1 u_1.2.2.2.2.2).2.2.2.2.1
  let cn_35 : Int32 := (lpX2_readSum_12 T_length fS inn (61) 0 r_5 u_1.1 u_4 u_1.2.2.1 u_1.2.2.2.1 u_1.2.2.2.2.1 u_1.2.2.2.2.2).2.2.2.2.2.1
  let fl_36 : Int32 := (lpX2_readSum_12 T_length fS inn (61) 0 r_5 u_1.1 u_4 u_1.2.2.1 u_1.2.2.2.1 u_1.2.2.2.2.1 u_1.2.2.2.2.2).2.2.2.2.2.2.1
  let pf_37 : Nat → Int32 := (lpX2_readSum_12 T_length fS inn (61) 0 r_5 u_1.1 u_4 u_1.2.2.1 u_1.2.2.2.1 u_1.2.2.2.2.1 u_1.2.2.2.2.2).2.2.2.2.2.2.2
  (wc_32, at__33, wf_34, cn_35, fl_36, pf_37)) : Int32 × Int32 × (Nat → Int32) × Int32 × Int32 × (Nat → Int32))) ewc_32.symm).trans ((congrArg (fun (at__33 : Int32) => ((let wf_34 : Nat → Int32 := (lpX2_readSum_12 T_length fS inn (61) 0 r_5 u_1.1 u_4 u_1.2.2.1 u_1.2.2.2.1 u_1.2.2.2.2.1 u_1.2.2.2.2.2).2.2.2.2.1
  let cn_35 : Int32 := (lpX2_readSum_12 T_length fS inn (61) 0 r_5 u_1.1 u_4 u_1.2.2.1 u_1.2.2.2.1 u_1.2.2.2.2.1 u_1.2.2.2.2.2).2.2.2.2.2.1
  let fl_36 : Int32 := (lpX2_readSum_12 T_length fS inn (61) 0 r_5 u_1.1 u_4 u_1.2.2.1 u_1.2.2.2.1 u_1.2.2.2.2.1 u_1.2.2.2.2.2).2.2.2.2.2.2.1
  let pf_37 : Nat → Int32 := (lpX2_readSum_12 T_length fS inn (61) 0 r_5 u_1.1 u_4 u_1.2.2.1 u_1.2.2.2.1 u_1.2.2.2.2.1 u_1.2.2.2.2.2).2.2.2.2.2.2.2
  (wc_32, at__33, wf_34, cn_35, fl_36, pf_37)) : Int32 × Int32 × (Nat → Int32) × Int32 × Int32 × (Nat → Int32))) eat__33.symm).trans ((congrArg (fun (wf_34 : Nat → Int32) => ((let cn_35 : Int32 := (lpX2_readSum_12 T_length fS inn (61) 0 r_5 u_1.1 u_4 u_1.2.2.1 u_1.2.2.2.1 u_1.2.2.2.2.1 u_1.2.2.2.2.2).2.2.2.2.2.1
  let fl_36 : Int32 := (lpX2_readSum_12 T_length fS inn (61) 0 r_5 u_1.1 u_4 u_1.2.2.1 u_1.2.2.2.1 u_1.2.2.2.2.1 u_1.2.2.2.2.2).2.2.2.2.2.2.1
  let pf_37 : Nat → Int32 := (lpX2_readSum_12 T_length fS inn (61) 0 r_5 u_1.1 u_4 u_1.2.2.1 u_1.2.2.2.1 u_1.2.2.2.2.1 u_1.2.2.2.2.2).2.2.2.2.2.2.2
  (wc_32, at__33, wf_34, cn_35, fl_36, pf_37)) : Int32 × Int32 × (Nat → Int32) × Int32 × Int32 × (Nat → Int32))) ewf_34.symm).trans ((congrArg (fun (cn_35 : Int32) => ((let fl_36 : Int32 := (lpX2_readSum_12 T_length fS inn (61) 0 r_5 u_1.1 u_4 u_1.2.2.1 u_1.2.2.2.1 u_1.2.2.2.2.1 u_1.2.2.2.2.2).2.2.2.2.2.2.1
  let pf_37 : Nat → Int32 := (lpX2_readSum_12 T_length fS inn (61) 0 r_5 u_1.1 u_4 u_1.2.2.1 u_1.2.2.2.1 u_1.2.2.2.2.1 u_1.2.2.2.2.2).2.2.2.2.2.2.2
  (wc_32, at__33, wf_34, cn_35, fl_36, pf_37)) : Int32 × Int32 × (Nat → Int32) × Int32 × Int32 × (Nat → Int32))) ecn_35.symm).trans ((congrArg (fun (fl_36 : Int32) => ((let pf_37 : Nat → Int32 := (lpX2_readSum_12 T_length fS inn (61) 0 r_5 u_1.1 u_4 u_1.2.2.1 u_1.2.2.2.1 u_1.2.2.2.2.1 u_1.2.2.2.2.2).2.2.2.2.2.2.2
  (wc_32, at__33, wf_34, cn_35, fl_36, pf_37)) : Int32 × Int32 × (Nat → Int32) × Int32 × Int32 × (Nat → Int32))) efl_36.symm).trans ((congrArg (fun (pf_37 : Nat → Int32) => (((wc_32, at__33, wf_34, cn_35, fl_36, pf_37)) : Int32 × Int32 × (Nat → Int32) × Int32 × Int32 × (Nat → Int32))) epf_37.symm)))))))))))).symm
          have en_0 : 0 ≤ at__33.toInt := by first | assumption | omega
          have en_1 : at__33.toInt ≤ 60 := by first | assumption | omega
          have en_2 : 0 ≤ wc_32.toInt := by first | assumption | omega
          have en_3 : wc_32.toInt ≤ 60 := by first | assumption | omega
          have en_4 : 0 ≤ cn_35.toInt := by first | assumption | omega
          have en_5 : cn_35.toInt ≤ 60 := by first | assumption | omega
          exact kk_ev hx hb hr hlocks hK hq [2, 0, 3, 4, 5, 1] (wc_32, at__33, wf_34, cn_35, fl_36, pf_37) rfl (by decide) dX2_readSum_64 ⟨hf, en_0, en_1, en_2, en_3, en_4, en_5⟩
        · skip
          have hlt := nx_use nx c_28 (by decide)
          refine lv_aload_n hx hb dX2_readSum_30 rfl (lv_at hl 2 rfl) ?_
          refine lv_dup hx hb dX2_readSum_31 rfl ?_
          refine kk_get (ci := 2) (v := .int at_) (C := RX2) (T := TX2) (N := 5) hx hb hts iX2 hown hK hq 2 rfl rfl 4 (by decide) lk0_ rfl dX2_readSum_32 ?_
          refine lv_iconst (v := 1) hx hb dX2_readSum_35 (by decide) ?_
          refine lv_iadd hx hb dX2_readSum_36 ?_
          refine lv_topi (fun at_38 eat_38 => ?_)
          refine kk_put (ws' := [(aW, .inl (cW, 60, .inl wf)), (aP, .inl (cP, 60, .inl pf)), (aR, .inr (2, [.ref aW, .int wc, .ref aT, .ref aL, .int at_38])), (aT, .inr (5, [.ref aS, .int T_length])), (aS, .inl (cS, 60, .inl fS)), (aL, .inr (1, [.ref aP, .int cn, .int fl, .ref rL_values, .int L_top]))]) (ci := 2) (v := .int at_38) (C := RX2) (T := TX2) (N := 5) hx hb hts iX2 tyX2_ok nmX2 hown hK hq 2 rfl rfl 4 (by decide) lk0_ rfl rfl rfl (Nat.le_of_ble_eq_true rfl) dX2_readSum_37 rfl (fun H locs hq => ?_)
          have hat_38 := at_inc eat_38 (by assumption) hlt
          have q0at_38 : 0 ≤ at_38.toInt := hat_38.1
          have q1at_38 : at_38.toInt ≤ 60 := hat_38.2
          refine lv_aload_n hx hb dX2_readSum_40 rfl (lv_at hl 2 rfl) ?_
          refine lv_iload_n hx hb dX2_readSum_41 rfl (lv_at hl 3 rfl) ?_
          refine kk_Vv (As := [.int p1]) (rest := []) (wr := []) ⟨hx, hb, hml, hown, hts⟩ (c_X2_readTerm l G aR aW aT aS aL aP rL_values cW cS cP F Q p1 wc at_38 wf T_length fS cn fl L_top pf inn (by assumption) (by assumption) (by assumption) (by assumption) (by assumption) (by assumption) (by assumption) (by assumption)) (kk_cwV 1 hts hsb wd_245 wd_246 wd_247 wd_25 wd_248 rfl rfl hd_X2_readTerm ⟨by dsimp only [headSpec]; omega, by dsimp only [headSpec]; omega⟩) hA hK hq [2, 0, 3, 4, 5, 1] [] [0, 1, 2] rfl rfl rfl (by decide) (by decide) (by decide) 0 2 rfl rfl rfl rfl hl.1 rfl (Nat.le_of_ble_eq_true rfl) dX2_readSum_42 ⟨Nat.zero_le _, Nat.zero_le _⟩ (fun u_39 H locs h_41 hq => ?_)
          obtain ⟨eu_39, q0_u_39, q1_u_39, w0_u_39, w1_u_39, k0_u_39, k1_u_39⟩ := h_41
          have hq : kAt G A s [(aR, .inr (2, [.ref aW, .int u_39.1, .ref aT, .ref aL, .int u_39.2.1])), (aW, .inl (cW, 60, .inl u_39.2.2.1)), (aT, .inr (5, [.ref aS, .int T_length])), (aS, .inl (cS, 60, .inl fS)), (aL, .inr (1, [.ref aP, .int u_39.2.2.2.1, .int u_39.2.2.2.2.1, .ref rL_values, .int L_top])), (aP, .inl (cP, 60, .inl u_39.2.2.2.2.2))] H locs := hq
          refine lv_aload_n hx hb dX2_readSum_45 rfl (lv_at hl 2 rfl) ?_
          refine kk_get (ci := 2) (v := .ref aL) (C := RX2) (T := TX2) (N := 5) hx hb hts iX2 hown hK hq 0 rfl rfl 3 (by decide) lk1_ rfl dX2_readSum_46 ?_
          refine lv_iload_n hx hb dX2_readSum_49 rfl (lv_at hl 1 rfl) ?_
          refine kk_Vv (As := [.int sg]) (rest := []) (wr := [(aR, .inr (2, [.ref aW, .int u_39.1, .ref aT, .ref aL, .int u_39.2.1])), (aW, .inl (cW, 60, .inl u_39.2.2.1)), (aT, .inr (5, [.ref aS, .int T_length])), (aS, .inl (cS, 60, .inl fS))]) ⟨hx, hb, hml, hown, hts⟩ (c_X1_addSign l G aL aP rL_values cP sg u_39.2.2.2.1 u_39.2.2.2.2.1 L_top u_39.2.2.2.2.2 (by assumption) (by assumption)) (kk_cwV 1 hts hsb wd_205 wd_206 wd_207 wd_21 wd_208 rfl rfl hd_X1_addSign ⟨by dsimp only [headSpec]; omega, by dsimp only [headSpec]; omega⟩) hA hK hq [4, 5] [0, 1, 2, 3] [2] rfl rfl rfl (by decide) (by decide) (by decide) 0 1 rfl rfl rfl rfl hl.1 rfl (Nat.le_of_ble_eq_true rfl) dX2_readSum_50 ⟨Nat.zero_le _, Nat.zero_le _⟩ (fun u_42 H locs h_44 hq => ?_)
          obtain ⟨eu_42, k0_u_42, k1_u_42⟩ := h_44
          have hq : kAt G A s [(aR, .inr (2, [.ref aW, .int u_39.1, .ref aT, .ref aL, .int u_39.2.1])), (aW, .inl (cW, 60, .inl u_39.2.2.1)), (aT, .inr (5, [.ref aS, .int T_length])), (aS, .inl (cS, 60, .inl fS)), (aL, .inr (1, [.ref aP, .int u_42.1, .int u_39.2.2.2.2.1, .ref rL_values, .int L_top])), (aP, .inl (cP, 60, .inl u_42.2))] H locs := hq
          refine lv_aload_n hx hb dX2_readSum_53 rfl (lv_at hl 2 rfl) ?_
          refine kk_Vi (As := []) (rest := []) (wr := [(aW, .inl (cW, 60, .inl u_39.2.2.1)), (aP, .inl (cP, 60, .inl u_42.2))]) ⟨hx, hb, hml, hown, hts⟩ (c_X2_nextSign l G aR aT aS aL aW aP rL_values cS u_39.1 u_39.2.1 T_length fS u_42.1 u_39.2.2.2.2.1 L_top (by assumption) (by assumption) (by assumption)) (kk_cwV 0 hts hsb wd_195 wd_196 wd_197 wd_25 wd_198 rfl rfl hd_X2_nextSign ⟨by dsimp only [headSpec]; omega, by dsimp only [headSpec]; omega⟩) hA hK hq [0, 2, 3, 4] [1, 5] [1] rfl rfl rfl (by decide) (by decide) (by decide) 0 2 rfl rfl rfl rfl hl.1 rfl (Nat.le_of_ble_eq_true rfl) dX2_readSum_54 ⟨Nat.zero_le _, Nat.zero_le _⟩ (fun r_46 u_45 H locs h_47 hq => ?_)
          obtain ⟨er_46, eu_45, q0_u_45, q1_u_45, nx_u_45⟩ := h_47
          have hq : kAt G A s [(aW, .inl (cW, 60, .inl u_39.2.2.1)), (aP, .inl (cP, 60, .inl u_42.2)), (aR, .inr (2, [.ref aW, .int u_39.1, .ref aT, .ref aL, .int u_45])), (aT, .inr (5, [.ref aS, .int T_length])), (aS, .inl (cS, 60, .inl fS)), (aL, .inr (1, [.ref aP, .int u_42.1, .int u_39.2.2.2.2.1, .ref rL_values, .int L_top]))] H locs := hq
          refine lv_istore_n (lv' := [(2, .int r_46), (3, .int i), (0, .ref aR), (1, .int p1)]) hx hb dX2_readSum_57 rfl hl (by decide) rfl (fun ls hl => ?_)
          refine lv_iinc (v := i + 1) (lv' := [(3, .int (i + 1)), (2, .int r_46), (0, .ref aR), (1, .int p1)]) hx hb dX2_readSum_58 hl (k := 1) rfl rfl (by decide) rfl (fun ls hl => ?_)
          refine lv_goto (tgt := 12) hx hb dX2_readSum_61 (by decide) ?_
          exact ih (i + 1) r_46 u_39.1 u_45 u_39.2.2.1 u_42.1 u_39.2.2.2.2.1 u_42.2 _ _ _ ⟨(hrel.trans ((if_neg c_7).trans ((if_neg c_17).trans ((if_pos c_28).trans ((congrArg (fun (at_38 : Int32) => ((let u_21 : Int32 × Int32 × (Nat → Int32) × Int32 × Int32 × (Nat → Int32) := fX2_readTerm inn wc at_38 wf T_length fS cn fl pf
    let u_24 : Int32 × (Nat → Int32) := fX1_addSign sg u_21.2.2.2.1 u_21.2.2.2.2.2
    let r_28 : Int32 := (fX2_nextSign u_21.2.1 T_length fS u_21.2.2.2.2.1).1
    let u_27 : Int32 := (fX2_nextSign u_21.2.1 T_length fS u_21.2.2.2.2.1).2
    lpX2_readSum_12 T_length fS inn N (i + 1) r_28 u_21.1 u_27 u_21.2.2.1 u_24.1 u_21.2.2.2.2.1 u_24.2) : Int32 × Int32 × Int32 × Int32 × (Nat → Int32) × Int32 × Int32 × (Nat → Int32))) eat_38.symm).trans ((congrArg (fun (u_39 : Int32 × Int32 × (Nat → Int32) × Int32 × Int32 × (Nat → Int32)) => ((let u_24 : Int32 × (Nat → Int32) := fX1_addSign sg u_39.2.2.2.1 u_39.2.2.2.2.2
    let r_28 : Int32 := (fX2_nextSign u_39.2.1 T_length fS u_39.2.2.2.2.1).1
    let u_27 : Int32 := (fX2_nextSign u_39.2.1 T_length fS u_39.2.2.2.2.1).2
    lpX2_readSum_12 T_length fS inn N (i + 1) r_28 u_39.1 u_27 u_39.2.2.1 u_24.1 u_39.2.2.2.2.1 u_24.2) : Int32 × Int32 × Int32 × Int32 × (Nat → Int32) × Int32 × Int32 × (Nat → Int32))) eu_39.symm).trans ((congrArg (fun (u_42 : Int32 × (Nat → Int32)) => ((let r_28 : Int32 := (fX2_nextSign u_39.2.1 T_length fS u_39.2.2.2.2.1).1
    let u_27 : Int32 := (fX2_nextSign u_39.2.1 T_length fS u_39.2.2.2.2.1).2
    lpX2_readSum_12 T_length fS inn N (i + 1) r_28 u_39.1 u_27 u_39.2.2.1 u_42.1 u_39.2.2.2.2.1 u_42.2) : Int32 × Int32 × Int32 × Int32 × (Nat → Int32) × Int32 × Int32 × (Nat → Int32))) eu_42.symm).trans ((congrArg (fun (r_46 : Int32) => ((let u_27 : Int32 := (fX2_nextSign u_39.2.1 T_length fS u_39.2.2.2.2.1).2
    lpX2_readSum_12 T_length fS inn N (i + 1) r_46 u_39.1 u_27 u_39.2.2.1 u_42.1 u_39.2.2.2.2.1 u_42.2) : Int32 × Int32 × Int32 × Int32 × (Nat → Int32) × Int32 × Int32 × (Nat → Int32))) er_46.symm).trans ((congrArg (fun (u_45 : Int32) => ((lpX2_readSum_12 T_length fS inn N (i + 1) r_46 u_39.1 u_45 u_39.2.2.1 u_42.1 u_39.2.2.2.2.1 u_42.2) : Int32 × Int32 × Int32 × Int32 × (Nat → Int32) × Int32 × Int32 × (Nat → Int32))) eu_45.symm)))))))))), (by have := kk_inc (x := i) (by omega); omega), (by have := kk_inc (x := i) (by omega); omega), (by have := kk_inc (x := i) (by omega); omega), (by assumption), (by assumption), (by assumption), (by assumption), (by assumption), (by assumption), (by assumption), lv_sub hl [0, 1, 2, 3] rfl, hq⟩
