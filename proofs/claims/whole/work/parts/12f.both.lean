theorem hd_X2_readHeld : yX2_readHeld.cls = RX2 ∧ yX2_readHeld.cls ≠ "java/lang/invoke/MethodHandle" ∧ yX2_readHeld.cls ≠ "java/lang/invoke/VarHandle" ∧ (parseMethodDescriptor yX2_readHeld.desc).map (fun d => d.parameters.length) = some 1 := by decide +kernel
def lpX2_readBoth_7 (T_length : Int32) (fS : Nat → Int32) (inn : Int32 → Int32 → (Nat → Int32) → Int32 → Int32 → (Nat → Int32) → Int32 × Int32 × (Nat → Int32) × Int32 × Int32 × (Nat → Int32)) : Nat → Int32 → Int32 → Int32 → (Nat → Int32) → Int32 → Int32 → (Nat → Int32) → Int32 × Int32 × Int32 × (Nat → Int32) × Int32 × Int32 × (Nat → Int32)
  | 0, _, _, _, _, _, _, _ => (0, 0, 0, fun _ => 0, 0, 0, fun _ => 0)
  | N + 1, i, wc, at_, wf, cn, fl, pf =>
    if 60 ≤ i then (
    (i, wc, at_, wf, cn, fl, pf))
    else (
    let r_6 : Int32 := (fX2_nextSign at_ T_length fS fl).1
    let u_5 : Int32 := (fX2_nextSign at_ T_length fS fl).2
    if r_6 = 38 then (
    let at_9 : Int32 := u_5 + 1
    let u_10 : Int32 × Int32 × (Nat → Int32) × Int32 × Int32 × (Nat → Int32) := fX2_readHeld inn wc at_9 wf T_length fS cn fl pf
    let u_13 : Int32 × (Nat → Int32) := fX1_addSign 38 u_10.2.2.2.1 u_10.2.2.2.2.2
    lpX2_readBoth_7 T_length fS inn N (i + 1) u_10.1 u_10.2.1 u_10.2.2.1 u_13.1 u_10.2.2.2.2.1 u_13.2)
    else (
    (i, wc, u_5, wf, cn, fl, pf)))

def fX2_readBoth (inn : Int32 → Int32 → (Nat → Int32) → Int32 → Int32 → (Nat → Int32) → Int32 × Int32 × (Nat → Int32) × Int32 × Int32 × (Nat → Int32)) (R_waitingCount : Int32) (R_at : Int32) (fW : Nat → Int32) (T_length : Int32) (fS : Nat → Int32) (L_count : Int32) (L_fault : Int32) (fP : Nat → Int32) : Int32 × Int32 × (Nat → Int32) × Int32 × Int32 × (Nat → Int32) :=
  let u_1 : Int32 × Int32 × (Nat → Int32) × Int32 × Int32 × (Nat → Int32) := fX2_readHeld inn R_waitingCount R_at fW T_length fS L_count L_fault fP
  let i_18 : Int32 := (lpX2_readBoth_7 T_length fS inn (61) 0 u_1.1 u_1.2.1 u_1.2.2.1 u_1.2.2.2.1 u_1.2.2.2.2.1 u_1.2.2.2.2.2).1
  let wc_19 : Int32 := (lpX2_readBoth_7 T_length fS inn (61) 0 u_1.1 u_1.2.1 u_1.2.2.1 u_1.2.2.2.1 u_1.2.2.2.2.1 u_1.2.2.2.2.2).2.1
  let at__20 : Int32 := (lpX2_readBoth_7 T_length fS inn (61) 0 u_1.1 u_1.2.1 u_1.2.2.1 u_1.2.2.2.1 u_1.2.2.2.2.1 u_1.2.2.2.2.2).2.2.1
  let wf_21 : Nat → Int32 := (lpX2_readBoth_7 T_length fS inn (61) 0 u_1.1 u_1.2.1 u_1.2.2.1 u_1.2.2.2.1 u_1.2.2.2.2.1 u_1.2.2.2.2.2).2.2.2.1
  let cn_22 : Int32 := (lpX2_readBoth_7 T_length fS inn (61) 0 u_1.1 u_1.2.1 u_1.2.2.1 u_1.2.2.2.1 u_1.2.2.2.2.1 u_1.2.2.2.2.2).2.2.2.2.1
  let fl_23 : Int32 := (lpX2_readBoth_7 T_length fS inn (61) 0 u_1.1 u_1.2.1 u_1.2.2.1 u_1.2.2.2.1 u_1.2.2.2.2.1 u_1.2.2.2.2.2).2.2.2.2.2.1
  let pf_24 : Nat → Int32 := (lpX2_readBoth_7 T_length fS inn (61) 0 u_1.1 u_1.2.1 u_1.2.2.1 u_1.2.2.2.1 u_1.2.2.2.2.1 u_1.2.2.2.2.2).2.2.2.2.2.2
  (wc_19, at__20, wf_21, cn_22, fl_23, pf_24)

set_option maxHeartbeats 4000000 in
set_option maxRecDepth 100000 in
theorem c_X2_readBoth (l : Launch) (G : va_G) (aR aW aT aS aL aP rL_values : Nat) (cW cS cP : ClassId) (F Q : Nat) (p1 : Int32) (R_waitingCount : Int32) (R_at : Int32) (fW : Nat → Int32) (T_length : Int32) (fS : Nat → Int32) (L_count : Int32) (L_fault : Int32) (L_top : Int32) (fP : Nat → Int32) (inn : Int32 → Int32 → (Nat → Int32) → Int32 → Int32 → (Nat → Int32) → Int32 × Int32 × (Nat → Int32) × Int32 × Int32 × (Nat → Int32)) (q0 : 0 ≤ R_at.toInt) (q1 : R_at.toInt ≤ 60) (n1 : T_length.toInt ≤ 60) (w0 : 0 ≤ R_waitingCount.toInt) (w1 : R_waitingCount.toInt ≤ 60) (k0 : 0 ≤ L_count.toInt) (k1 : L_count.toInt ≤ 60) (hI : hy_inner l G aR aW aT aS aL aP rL_values cW cS cP F Q p1 T_length fS inn) : kCv l yX2_readBoth (Cond.code yX2_readBoth cX2_readBoth 3 none :: wsL_law) ({ frames := F + 8, cells := 0, slots := 0, locals := Q + 177 }) G [(cW, .int), (cS, .int), (cP, .int)] [.ref aR, .int p1] [(aR, .inr (2, [.ref aW, .int R_waitingCount, .ref aT, .ref aL, .int R_at])), (aW, .inl (cW, 60, .inl fW)), (aT, .inr (5, [.ref aS, .int T_length])), (aS, .inl (cS, 60, .inl fS)), (aL, .inr (1, [.ref aP, .int L_count, .int L_fault, .ref rL_values, .int L_top])), (aP, .inl (cP, 60, .inl fP))] (fun (u : Int32 × Int32 × (Nat → Int32) × Int32 × Int32 × (Nat → Int32)) => u = fX2_readBoth inn R_waitingCount R_at fW T_length fS L_count L_fault fP ∧ (0 ≤ u.2.1.toInt) ∧ (u.2.1.toInt ≤ 60) ∧ (0 ≤ u.1.toInt) ∧ (u.1.toInt ≤ 60) ∧ (0 ≤ u.2.2.2.1.toInt) ∧ (u.2.2.2.1.toInt ≤ 60)) (fun (u : Int32 × Int32 × (Nat → Int32) × Int32 × Int32 × (Nat → Int32)) => [(aR, .inr (2, [.ref aW, .int u.1, .ref aT, .ref aL, .int u.2.1])), (aW, .inl (cW, 60, .inl u.2.2.1)), (aT, .inr (5, [.ref aS, .int T_length])), (aS, .inl (cS, 60, .inl fS)), (aL, .inr (1, [.ref aP, .int u.2.2.2.1, .int u.2.2.2.2.1, .ref rL_values, .int L_top])), (aP, .inl (cP, 60, .inl u.2.2.2.2.2))]) := by
  intro sz
  refine Met.ofW (cc := cX2_readBoth) (maxL := 3) (ret := none) (by decide) rfl ?_
  intro p e s m args below meth c s₁ B hml hv
  obtain ⟨rfl, hv⟩ := hv
  obtain ⟨rfl, hK, hq, hA⟩ := kk_begin hv
  have hx := B.exec
  have hb := B.bytes
  have hr := B.returns
  have hts := atoms_spec (ws := (Cond.code yX2_readBoth cX2_readBoth 3 none :: wsL_law)) B.pre
  have hown : s.vm.findClass RX2 = some m.cls := findClass_of_methodNamed B.named
  have hlocks := B.notSynchronized
  have hsb : ∀ w ∈ wsL_law, w ∈ (Cond.code yX2_readBoth cX2_readBoth 3 none :: wsL_law) := fun _ h => List.mem_cons_of_mem _ h
  generalize va_A [(aR, .inr (2, [.ref aW, .int R_waitingCount, .ref aT, .ref aL, .int R_at])), (aW, .inl (cW, 60, .inl fW)), (aT, .inr (5, [.ref aS, .int T_length])), (aS, .inl (cS, 60, .inl fS)), (aL, .inr (1, [.ref aP, .int L_count, .int L_fault, .ref rL_values, .int L_top])), (aP, .inl (cP, 60, .inl fP))] s.heap.size = A at hq hA ⊢
  have iX2 : ∀ w ∈ u_ws RX2 TX2 5, w ∈ (Cond.code yX2_readBoth cX2_readBoth 3 none :: wsL_law) := fun w h => hsb w (bin_X2 w h)
  have lk0_ := hts _ (hsb _ wd_110)
  have lk1_ := hts _ (hsb _ wd_112)
  have hl := lv_entry ([.ref aR, .int p1]) (n := 3) (Nat.le_of_ble_eq_true rfl)
  rw [lg_entry_eq]
  generalize (lg_sl ([.ref aR, .int p1]) ++ List.replicate (3 - (lg_sl ([.ref aR, .int p1])).length) Slot.unset).toArray = ls at hl ⊢
  have hl : lv_has ls 3 [(0, .ref aR), (1, .int p1)] := hl
  refine lv_aload_n hx hb dX2_readBoth_0 rfl (lv_at hl 0 rfl) ?_
  refine lv_iload_n hx hb dX2_readBoth_1 rfl (lv_at hl 1 rfl) ?_
  refine kk_Vv (As := [.int p1]) (rest := []) (wr := []) ⟨hx, hb, hml, hown, hts⟩ (c_X2_readHeld l G aR aW aT aS aL aP rL_values cW cS cP F Q p1 R_waitingCount R_at fW T_length fS L_count L_fault L_top fP inn (by assumption) (by assumption) (by assumption) (by assumption) (by assumption) (by assumption) (by assumption) (by assumption)) (kk_cwV 1 hts hsb wd_214 wd_215 wd_216 wd_25 wd_239 rfl rfl hd_X2_readHeld ⟨by dsimp only [headSpec]; omega, by dsimp only [headSpec]; omega⟩) hA hK hq [0, 1, 2, 3, 4, 5] [] [0, 1, 2] rfl rfl rfl (by decide) (by decide) (by decide) 0 2 rfl rfl rfl rfl hl.1 rfl (Nat.le_of_ble_eq_true rfl) dX2_readBoth_2 ⟨Nat.zero_le _, Nat.zero_le _⟩ (fun u_1 H locs h_3 hq => ?_)
  obtain ⟨eu_1, q0_u_1, q1_u_1, w0_u_1, w1_u_1, k0_u_1, k1_u_1⟩ := h_3
  have hq : kAt G A s [(aR, .inr (2, [.ref aW, .int u_1.1, .ref aT, .ref aL, .int u_1.2.1])), (aW, .inl (cW, 60, .inl u_1.2.2.1)), (aT, .inr (5, [.ref aS, .int T_length])), (aS, .inl (cS, 60, .inl fS)), (aL, .inr (1, [.ref aP, .int u_1.2.2.2.1, .int u_1.2.2.2.2.1, .ref rL_values, .int L_top])), (aP, .inl (cP, 60, .inl u_1.2.2.2.2.2))] H locs := hq
  refine lv_iconst (v := 0) hx hb dX2_readBoth_5 (by decide) ?_
  refine lv_istore_n (lv' := [(2, .int 0), (0, .ref aR), (1, .int p1)]) hx hb dX2_readBoth_6 rfl hl (by decide) rfl (fun ls hl => ?_)
  refine kk_loop7 (fun N (i : Int32) (wc : Int32) (at_ : Int32) (wf : Nat → Int32) (cn : Int32) (fl : Int32) (pf : Nat → Int32) (H : Heap) (locs : List Loc) (ls : Array Slot) => lpX2_readBoth_7 T_length fS inn (61) 0 u_1.1 u_1.2.1 u_1.2.2.1 u_1.2.2.2.1 u_1.2.2.2.2.1 u_1.2.2.2.2.2 = lpX2_readBoth_7 T_length fS inn N i wc at_ wf cn fl pf ∧ (0 ≤ i.toInt) ∧ (i.toInt ≤ 60) ∧ (i.toInt + N = 61) ∧ (0 ≤ at_.toInt) ∧ (at_.toInt ≤ 60) ∧ (0 ≤ wc.toInt) ∧ (wc.toInt ≤ 60) ∧ (0 ≤ cn.toInt) ∧ (cn.toInt ≤ 60) ∧ lv_has ls 3 [(2, .int i), (0, .ref aR), (1, .int p1)] ∧ kAt G A s [(aR, .inr (2, [.ref aW, .int wc, .ref aT, .ref aL, .int at_])), (aW, .inl (cW, 60, .inl wf)), (aT, .inr (5, [.ref aS, .int T_length])), (aS, .inl (cS, 60, .inl fS)), (aL, .inr (1, [.ref aP, .int cn, .int fl, .ref rL_values, .int L_top])), (aP, .inl (cP, 60, .inl pf))] H locs) 7 (fun i wc at_ wf cn fl pf => []) (fun i wc at_ wf cn fl pf H locs ls hv => ?_) (fun N i wc at_ wf cn fl pf H locs ls ih hv => ?_) (61) 0 u_1.1 u_1.2.1 u_1.2.2.1 u_1.2.2.2.1 u_1.2.2.2.2.1 u_1.2.2.2.2.2 _ _ _ ⟨rfl, (by decide), (by decide), (by decide), (by assumption), (by assumption), (by assumption), (by assumption), (by assumption), (by assumption), lv_sub hl [0, 1, 2] rfl, hq⟩
  · skip
    obtain ⟨hrel, i0, i1, hN, ap0, ap1, v0, v1, d0, d1, hl, hq⟩ := hv
    omega
  · skip
    obtain ⟨hrel, i0, i1, hN, ap0, ap1, v0, v1, d0, d1, hl, hq⟩ := hv
    refine lv_iload_n hx hb dX2_readBoth_7 rfl (lv_at hl 0 rfl) ?_
    refine lv_bipush (v := 60) hx hb dX2_readBoth_8 (by decide) ?_
    refine lv_icmp_ge (tgt := 52) hx hb dX2_readBoth_10 (by decide) (fun c_4 => ?_) (fun c_4 => ?_)
    · skip
      have hx_5 : ((i, wc, at_, wf, cn, fl, pf) : Int32 × Int32 × Int32 × (Nat → Int32) × Int32 × Int32 × (Nat → Int32)) = lpX2_readBoth_7 T_length fS inn (61) 0 u_1.1 u_1.2.1 u_1.2.2.1 u_1.2.2.2.1 u_1.2.2.2.2.1 u_1.2.2.2.2.2 := (hrel.trans ((if_pos c_4))).symm
      obtain ⟨i_6, gi_6⟩ : ∃ z : Int32, z = i := ⟨_, rfl⟩
      have ei_6 : i_6 = (lpX2_readBoth_7 T_length fS inn (61) 0 u_1.1 u_1.2.1 u_1.2.2.1 u_1.2.2.2.1 u_1.2.2.2.2.1 u_1.2.2.2.2.2).1 := gi_6.trans (congrArg (fun z : Int32 × Int32 × Int32 × (Nat → Int32) × Int32 × Int32 × (Nat → Int32) => z.1) hx_5)
      obtain ⟨wc_7, gwc_7⟩ : ∃ z : Int32, z = wc := ⟨_, rfl⟩
      have ewc_7 : wc_7 = (lpX2_readBoth_7 T_length fS inn (61) 0 u_1.1 u_1.2.1 u_1.2.2.1 u_1.2.2.2.1 u_1.2.2.2.2.1 u_1.2.2.2.2.2).2.1 := gwc_7.trans (congrArg (fun z : Int32 × Int32 × Int32 × (Nat → Int32) × Int32 × Int32 × (Nat → Int32) => z.2.1) hx_5)
      obtain ⟨at__8, gat__8⟩ : ∃ z : Int32, z = at_ := ⟨_, rfl⟩
      have eat__8 : at__8 = (lpX2_readBoth_7 T_length fS inn (61) 0 u_1.1 u_1.2.1 u_1.2.2.1 u_1.2.2.2.1 u_1.2.2.2.2.1 u_1.2.2.2.2.2).2.2.1 := gat__8.trans (congrArg (fun z : Int32 × Int32 × Int32 × (Nat → Int32) × Int32 × Int32 × (Nat → Int32) => z.2.2.1) hx_5)
      obtain ⟨wf_9, gwf_9⟩ : ∃ z : Nat → Int32, z = wf := ⟨_, rfl⟩
      have ewf_9 : wf_9 = (lpX2_readBoth_7 T_length fS inn (61) 0 u_1.1 u_1.2.1 u_1.2.2.1 u_1.2.2.2.1 u_1.2.2.2.2.1 u_1.2.2.2.2.2).2.2.2.1 := gwf_9.trans (congrArg (fun z : Int32 × Int32 × Int32 × (Nat → Int32) × Int32 × Int32 × (Nat → Int32) => z.2.2.2.1) hx_5)
      obtain ⟨cn_10, gcn_10⟩ : ∃ z : Int32, z = cn := ⟨_, rfl⟩
      have ecn_10 : cn_10 = (lpX2_readBoth_7 T_length fS inn (61) 0 u_1.1 u_1.2.1 u_1.2.2.1 u_1.2.2.2.1 u_1.2.2.2.2.1 u_1.2.2.2.2.2).2.2.2.2.1 := gcn_10.trans (congrArg (fun z : Int32 × Int32 × Int32 × (Nat → Int32) × Int32 × Int32 × (Nat → Int32) => z.2.2.2.2.1) hx_5)
      obtain ⟨fl_11, gfl_11⟩ : ∃ z : Int32, z = fl := ⟨_, rfl⟩
      have efl_11 : fl_11 = (lpX2_readBoth_7 T_length fS inn (61) 0 u_1.1 u_1.2.1 u_1.2.2.1 u_1.2.2.2.1 u_1.2.2.2.2.1 u_1.2.2.2.2.2).2.2.2.2.2.1 := gfl_11.trans (congrArg (fun z : Int32 × Int32 × Int32 × (Nat → Int32) × Int32 × Int32 × (Nat → Int32) => z.2.2.2.2.2.1) hx_5)
      obtain ⟨pf_12, gpf_12⟩ : ∃ z : Nat → Int32, z = pf := ⟨_, rfl⟩
      have epf_12 : pf_12 = (lpX2_readBoth_7 T_length fS inn (61) 0 u_1.1 u_1.2.1 u_1.2.2.1 u_1.2.2.2.1 u_1.2.2.2.2.1 u_1.2.2.2.2.2).2.2.2.2.2.2 := gpf_12.trans (congrArg (fun z : Int32 × Int32 × Int32 × (Nat → Int32) × Int32 × Int32 × (Nat → Int32) => z.2.2.2.2.2.2) hx_5)
      have hl : lv_has ls 3 [(2, .int i_6), (0, .ref aR), (1, .int p1)] := by subst gi_6 gwc_7 gat__8 gwf_9 gcn_10 gfl_11 gpf_12; exact hl
      have hq : kAt G A s [(aR, .inr (2, [.ref aW, .int wc_7, .ref aT, .ref aL, .int at__8])), (aW, .inl (cW, 60, .inl wf_9)), (aT, .inr (5, [.ref aS, .int T_length])), (aS, .inl (cS, 60, .inl fS)), (aL, .inr (1, [.ref aP, .int cn_10, .int fl_11, .ref rL_values, .int L_top])), (aP, .inl (cP, 60, .inl pf_12))] H locs := by subst gi_6 gwc_7 gat__8 gwf_9 gcn_10 gfl_11 gpf_12; exact hq
      have q0f : 0 ≤ at__8.toInt := by rw [gat__8]; assumption
      have q1f : at__8.toInt ≤ 60 := by rw [gat__8]; assumption
      have w0f : 0 ≤ wc_7.toInt := by rw [gwc_7]; assumption
      have w1f : wc_7.toInt ≤ 60 := by rw [gwc_7]; assumption
      have k0f : 0 ≤ cn_10.toInt := by rw [gcn_10]; assumption
      have k1f : cn_10.toInt ≤ 60 := by rw [gcn_10]; assumption
      have hf : ((wc_7, at__8, wf_9, cn_10, fl_11, pf_12) : Int32 × Int32 × (Nat → Int32) × Int32 × Int32 × (Nat → Int32)) = fX2_readBoth inn R_waitingCount R_at fW T_length fS L_count L_fault fP := by
        exact ((congrArg (fun (u_1 : Int32 × Int32 × (Nat → Int32) × Int32 × Int32 × (Nat → Int32)) => ((let i_18 : Int32 := (lpX2_readBoth_7 T_length fS inn (61) 0 u_1.1 u_1.2.1 u_1.2.2.1 u_1.2.2.2.1 u_1.2.2.2.2.1 u_1.2.2.2.2.2).1
  let wc_19 : Int32 := (lpX2_readBoth_7 T_length fS inn (61) 0 u_1.1 u_1.2.1 u_1.2.2.1 u_1.2.2.2.1 u_1.2.2.2.2.1 u_1.2.2.2.2.2).2.1
  let at__20 : Int32 := (lpX2_readBoth_7 T_length fS inn (61) 0 u_1.1 u_1.2.1 u_1.2.2.1 u_1.2.2.2.1 u_1.2.2.2.2.1 u_1.2.2.2.2.2).2.2.1
  let wf_21 : Nat → Int32 := (lpX2_readBoth_7 T_length fS inn (61) 0 u_1.1 u_1.2.1 u_1.2.2.1 u_1.2.2.2.1 u_1.2.2.2.2.1 u_1.2.2.2.2.2).2.2.2.1
  let cn_22 : Int32 := (lpX2_readBoth_7 T_length fS inn (61) 0 u_1.1 u_1.2.1 u_1.2.2.1 u_1.2.2.2.1 u_1.2.2.2.2.1 u_1.2.2.2.2.2).2.2.2.2.1
  let fl_23 : Int32 := (lpX2_readBoth_7 T_length fS inn (61) 0 u_1.1 u_1.2.1 u_1.2.2.1 u_1.2.2.2.1 u_1.2.2.2.2.1 u_1.2.2.2.2.2).2.2.2.2.2.1
  let pf_24 : Nat → Int32 := (lpX2_readBoth_7 T_length fS inn (61) 0 u_1.1 u_1.2.1 u_1.2.2.1 u_1.2.2.2.1 u_1.2.2.2.2.1 u_1.2.2.2.2.2).2.2.2.2.2.2
  (wc_19, at__20, wf_21, cn_22, fl_23, pf_24)) : Int32 × Int32 × (Nat → Int32) × Int32 × Int32 × (Nat → Int32))) eu_1.symm).trans ((congrArg (fun (i_6 : Int32) => ((let wc_19 : Int32 := (lpX2_readBoth_7 T_length fS inn (61) 0 u_1.1 u_1.2.1 u_1.2.2.1 u_1.2.2.2.1 u_1.2.2.2.2.1 u_1.2.2.2.2.2).2.1
  let at__20 : Int32 := (lpX2_readBoth_7 T_length fS inn (61) 0 u_1.1 u_1.2.1 u_1.2.2.1 u_1.2.2.2.1 u_1.2.2.2.2.1 u_1.2.2.2.2.2).2.2.1
  let wf_21 : Nat → Int32 := (lpX2_readBoth_7 T_length fS inn (61) 0 u_1.1 u_1.2.1 u_1.2.2.1 u_1.2.2.2.1 u_1.2.2.2.2.1 u_1.2.2.2.2.2).2.2.2.1
  let cn_22 : Int32 := (lpX2_readBoth_7 T_length fS inn (61) 0 u_1.1 u_1.2.1 u_1.2.2.1 u_1.2.2.2.1 u_1.2.2.2.2.1 u_1.2.2.2.2.2).2.2.2.2.1
  let fl_23 : Int32 := (lpX2_readBoth_7 T_length fS inn (61) 0 u_1.1 u_1.2.1 u_1.2.2.1 u_1.2.2.2.1 u_1.2.2.2.2.1 u_1.2.2.2.2.2).2.2.2.2.2.1
  let pf_24 : Nat → Int32 := (lpX2_readBoth_7 T_length fS inn (61) 0 u_1.1 u_1.2.1 u_1.2.2.1 u_1.2.2.2.1 u_1.2.2.2.2.1 u_1.2.2.2.2.2).2.2.2.2.2.2
  (wc_19, at__20, wf_21, cn_22, fl_23, pf_24)) : Int32 × Int32 × (Nat → Int32) × Int32 × Int32 × (Nat → Int32))) ei_6.symm).trans ((congrArg (fun (wc_7 : Int32) => ((let at__20 : Int32 := (lpX2_readBoth_7 T_length fS inn (61) 0 u_1.1 u_1.2.1 u_1.2.2.1 u_1.2.2.2.1 u_1.2.2.2.2.1 u_1.2.2.2.2.2).2.2.1
  let wf_21 : Nat → Int32 := (lpX2_readBoth_7 T_length fS inn (61) 0 u_1.1 u_1.2.1 u_1.2.2.1 u_1.2.2.2.1 u_1.2.2.2.2.1 u_1.2.2.2.2.2).2.2.2.1
  let cn_22 : Int32 := (lpX2_readBoth_7 T_length fS inn (61) 0 u_1.1 u_1.2.1 u_1.2.2.1 u_1.2.2.2.1 u_1.2.2.2.2.1 u_1.2.2.2.2.2).2.2.2.2.1
  let fl_23 : Int32 := (lpX2_readBoth_7 T_length fS inn (61) 0 u_1.1 u_1.2.1 u_1.2.2.1 u_1.2.2.2.1 u_1.2.2.2.2.1 u_1.2.2.2.2.2).2.2.2.2.2.1
  let pf_24 : Nat → Int32 := (lpX2_readBoth_7 T_length fS inn (61) 0 u_1.1 u_1.2.1 u_1.2.2.1 u_1.2.2.2.1 u_1.2.2.2.2.1 u_1.2.2.2.2.2).2.2.2.2.2.2
  (wc_7, at__20, wf_21, cn_22, fl_23, pf_24)) : Int32 × Int32 × (Nat → Int32) × Int32 × Int32 × (Nat → Int32))) ewc_7.symm).trans ((congrArg (fun (at__8 : Int32) => ((let wf_21 : Nat → Int32 := (lpX2_readBoth_7 T_length fS inn (61) 0 u_1.1 u_1.2.1 u_1.2.2.1 u_1.2.2.2.1 u_1.2.2.2.2.1 u_1.2.2.2.2.2).2.2.2.1
  let cn_22 : Int32 := (lpX2_readBoth_7 T_length fS inn (61) 0 u_1.1 u_1.2.1 u_1.2.2.1 u_1.2.2.2.1 u_1.2.2.2.2.1 u_1.2.2.2.2.2).2.2.2.2.1
  let fl_23 : Int32 := (lpX2_readBoth_7 T_length fS inn (61) 0 u_1.1 u_1.2.1 u_1.2.2.1 u_1.2.2.2.1 u_1.2.2.2.2.1 u_1.2.2.2.2.2).2.2.2.2.2.1
  let pf_24 : Nat → Int32 := (lpX2_readBoth_7 T_length fS inn (61) 0 u_1.1 u_1.2.1 u_1.2.2.1 u_1.2.2.2.1 u_1.2.2.2.2.1 u_1.2.2.2.2.2).2.2.2.2.2.2
  (wc_7, at__8, wf_21, cn_22, fl_23, pf_24)) : Int32 × Int32 × (Nat → Int32) × Int32 × Int32 × (Nat → Int32))) eat__8.symm).trans ((congrArg (fun (wf_9 : Nat → Int32) => ((let cn_22 : Int32 := (lpX2_readBoth_7 T_length fS inn (61) 0 u_1.1 u_1.2.1 u_1.2.2.1 u_1.2.2.2.1 u_1.2.2.2.2.1 u_1.2.2.2.2.2).2.2.2.2.1
  let fl_23 : Int32 := (lpX2_readBoth_7 T_length fS inn (61) 0 u_1.1 u_1.2.1 u_1.2.2.1 u_1.2.2.2.1 u_1.2.2.2.2.1 u_1.2.2.2.2.2).2.2.2.2.2.1
  let pf_24 : Nat → Int32 := (lpX2_readBoth_7 T_length fS inn (61) 0 u_1.1 u_1.2.1 u_1.2.2.1 u_1.2.2.2.1 u_1.2.2.2.2.1 u_1.2.2.2.2.2).2.2.2.2.2.2
  (wc_7, at__8, wf_9, cn_22, fl_23, pf_24)) : Int32 × Int32 × (Nat → Int32) × Int32 × Int32 × (Nat → Int32))) ewf_9.symm).trans ((congrArg (fun (cn_10 : Int32) => ((let fl_23 : Int32 := (lpX2_readBoth_7 T_length fS inn (61) 0 u_1.1 u_1.2.1 u_1.2.2.1 u_1.2.2.2.1 u_1.2.2.2.2.1 u_1.2.2.2.2.2).2.2.2.2.2.1
  let pf_24 : Nat → Int32 := (lpX2_readBoth_7 T_length fS inn (61) 0 u_1.1 u_1.2.1 u_1.2.2.1 u_1.2.2.2.1 u_1.2.2.2.2.1 u_1.2.2.2.2.2).2.2.2.2.2.2
  (wc_7, at__8, wf_9, cn_10, fl_23, pf_24)) : Int32 × Int32 × (Nat → Int32) × Int32 × Int32 × (Nat → Int32))) ecn_10.symm).trans ((congrArg (fun (fl_11 : Int32) => ((let pf_24 : Nat → Int32 := (lpX2_readBoth_7 T_length fS inn (61) 0 u_1.1 u_1.2.1 u_1.2.2.1 u_1.2.2.2.1 u_1.2.2.2.2.1 u_1.2.2.2.2.2).2.2.2.2.2.2
  (wc_7, at__8, wf_9, cn_10, fl_11, pf_24)) : Int32 × Int32 × (Nat → Int32) × Int32 × Int32 × (Nat → Int32))) efl_11.symm).trans ((congrArg (fun (pf_12 : Nat → Int32) => (((wc_7, at__8, wf_9, cn_10, fl_11, pf_12)) : Int32 × Int32 × (Nat → Int32) × Int32 × Int32 × (Nat → Int32))) epf_12.symm))))))))).symm
      have en_0 : 0 ≤ at__8.toInt := by first | assumption | omega
      have en_1 : at__8.toInt ≤ 60 := by first | assumption | omega
      have en_2 : 0 ≤ wc_7.toInt := by first | assumption | omega
      have en_3 : wc_7.toInt ≤ 60 := by first | assumption | omega
      have en_4 : 0 ≤ cn_10.toInt := by first | assumption | omega
      have en_5 : cn_10.toInt ≤ 60 := by first | assumption | omega
      exact kk_ev hx hb hr hlocks hK hq [0, 1, 2, 3, 4, 5] (wc_7, at__8, wf_9, cn_10, fl_11, pf_12) rfl (by decide) dX2_readBoth_52 ⟨hf, en_0, en_1, en_2, en_3, en_4, en_5⟩
    · skip
      have hi6 := kk_nle (k := 60) rfl c_4
      refine lv_aload_n hx hb dX2_readBoth_13 rfl (lv_at hl 1 rfl) ?_
      refine kk_Vi (As := []) (rest := []) (wr := [(aW, .inl (cW, 60, .inl wf)), (aP, .inl (cP, 60, .inl pf))]) ⟨hx, hb, hml, hown, hts⟩ (c_X2_nextSign l G aR aT aS aL aW aP rL_values cS wc at_ T_length fS cn fl L_top (by assumption) (by assumption) (by assumption)) (kk_cwV 0 hts hsb wd_195 wd_196 wd_197 wd_25 wd_198 rfl rfl hd_X2_nextSign ⟨by dsimp only [headSpec]; omega, by dsimp only [headSpec]; omega⟩) hA hK hq [0, 2, 3, 4] [1, 5] [1] rfl rfl rfl (by decide) (by decide) (by decide) 0 2 rfl rfl rfl rfl hl.1 rfl (Nat.le_of_ble_eq_true rfl) dX2_readBoth_14 ⟨Nat.zero_le _, Nat.zero_le _⟩ (fun r_14 u_13 H locs h_15 hq => ?_)
      obtain ⟨er_14, eu_13, q0_u_13, q1_u_13, nx_u_13⟩ := h_15
      have hq : kAt G A s [(aW, .inl (cW, 60, .inl wf)), (aP, .inl (cP, 60, .inl pf)), (aR, .inr (2, [.ref aW, .int wc, .ref aT, .ref aL, .int u_13])), (aT, .inr (5, [.ref aS, .int T_length])), (aS, .inl (cS, 60, .inl fS)), (aL, .inr (1, [.ref aP, .int cn, .int fl, .ref rL_values, .int L_top]))] H locs := hq
      have nxh := nx_u_13
      refine lv_bipush (v := 38) hx hb dX2_readBoth_17 (by decide) ?_
      refine lv_icmp_ne (tgt := 52) hx hb dX2_readBoth_19 (by decide) (fun c_16 => ?_) (fun c_16 => ?_)
      · skip
        have hx_17 : ((i, wc, u_13, wf, cn, fl, pf) : Int32 × Int32 × Int32 × (Nat → Int32) × Int32 × Int32 × (Nat → Int32)) = lpX2_readBoth_7 T_length fS inn (61) 0 u_1.1 u_1.2.1 u_1.2.2.1 u_1.2.2.2.1 u_1.2.2.2.2.1 u_1.2.2.2.2.2 := (hrel.trans ((if_neg c_4).trans ((congrArg (fun (r_14 : Int32) => ((let u_5 : Int32 := (fX2_nextSign at_ T_length fS fl).2
    if r_14 = 38 then (
    let at_9 : Int32 := u_5 + 1
    let u_10 : Int32 × Int32 × (Nat → Int32) × Int32 × Int32 × (Nat → Int32) := fX2_readHeld inn wc at_9 wf T_length fS cn fl pf
    let u_13 : Int32 × (Nat → Int32) := fX1_addSign 38 u_10.2.2.2.1 u_10.2.2.2.2.2
    lpX2_readBoth_7 T_length fS inn N (i + 1) u_10.1 u_10.2.1 u_10.2.2.1 u_13.1 u_10.2.2.2.2.1 u_13.2)
    else (
    (i, wc, u_5, wf, cn, fl, pf))) : Int32 × Int32 × Int32 × (Nat → Int32) × Int32 × Int32 × (Nat → Int32))) er_14.symm).trans ((congrArg (fun (u_13 : Int32) => ((if r_14 = 38 then (
    let at_9 : Int32 := u_13 + 1
    let u_10 : Int32 × Int32 × (Nat → Int32) × Int32 × Int32 × (Nat → Int32) := fX2_readHeld inn wc at_9 wf T_length fS cn fl pf
    let u_13 : Int32 × (Nat → Int32) := fX1_addSign 38 u_10.2.2.2.1 u_10.2.2.2.2.2
    lpX2_readBoth_7 T_length fS inn N (i + 1) u_10.1 u_10.2.1 u_10.2.2.1 u_13.1 u_10.2.2.2.2.1 u_13.2)
    else (
    (i, wc, u_13, wf, cn, fl, pf))) : Int32 × Int32 × Int32 × (Nat → Int32) × Int32 × Int32 × (Nat → Int32))) eu_13.symm).trans ((if_neg c_16)))))).symm
        obtain ⟨i_18, gi_18⟩ : ∃ z : Int32, z = i := ⟨_, rfl⟩
        have ei_18 : i_18 = (lpX2_readBoth_7 T_length fS inn (61) 0 u_1.1 u_1.2.1 u_1.2.2.1 u_1.2.2.2.1 u_1.2.2.2.2.1 u_1.2.2.2.2.2).1 := gi_18.trans (congrArg (fun z : Int32 × Int32 × Int32 × (Nat → Int32) × Int32 × Int32 × (Nat → Int32) => z.1) hx_17)
        obtain ⟨wc_19, gwc_19⟩ : ∃ z : Int32, z = wc := ⟨_, rfl⟩
        have ewc_19 : wc_19 = (lpX2_readBoth_7 T_length fS inn (61) 0 u_1.1 u_1.2.1 u_1.2.2.1 u_1.2.2.2.1 u_1.2.2.2.2.1 u_1.2.2.2.2.2).2.1 := gwc_19.trans (congrArg (fun z : Int32 × Int32 × Int32 × (Nat → Int32) × Int32 × Int32 × (Nat → Int32) => z.2.1) hx_17)
        obtain ⟨at__20, gat__20⟩ : ∃ z : Int32, z = u_13 := ⟨_, rfl⟩
        have eat__20 : at__20 = (lpX2_readBoth_7 T_length fS inn (61) 0 u_1.1 u_1.2.1 u_1.2.2.1 u_1.2.2.2.1 u_1.2.2.2.2.1 u_1.2.2.2.2.2).2.2.1 := gat__20.trans (congrArg (fun z : Int32 × Int32 × Int32 × (Nat → Int32) × Int32 × Int32 × (Nat → Int32) => z.2.2.1) hx_17)
        obtain ⟨wf_21, gwf_21⟩ : ∃ z : Nat → Int32, z = wf := ⟨_, rfl⟩
        have ewf_21 : wf_21 = (lpX2_readBoth_7 T_length fS inn (61) 0 u_1.1 u_1.2.1 u_1.2.2.1 u_1.2.2.2.1 u_1.2.2.2.2.1 u_1.2.2.2.2.2).2.2.2.1 := gwf_21.trans (congrArg (fun z : Int32 × Int32 × Int32 × (Nat → Int32) × Int32 × Int32 × (Nat → Int32) => z.2.2.2.1) hx_17)
        obtain ⟨cn_22, gcn_22⟩ : ∃ z : Int32, z = cn := ⟨_, rfl⟩
        have ecn_22 : cn_22 = (lpX2_readBoth_7 T_length fS inn (61) 0 u_1.1 u_1.2.1 u_1.2.2.1 u_1.2.2.2.1 u_1.2.2.2.2.1 u_1.2.2.2.2.2).2.2.2.2.1 := gcn_22.trans (congrArg (fun z : Int32 × Int32 × Int32 × (Nat → Int32) × Int32 × Int32 × (Nat → Int32) => z.2.2.2.2.1) hx_17)
        obtain ⟨fl_23, gfl_23⟩ : ∃ z : Int32, z = fl := ⟨_, rfl⟩
        have efl_23 : fl_23 = (lpX2_readBoth_7 T_length fS inn (61) 0 u_1.1 u_1.2.1 u_1.2.2.1 u_1.2.2.2.1 u_1.2.2.2.2.1 u_1.2.2.2.2.2).2.2.2.2.2.1 := gfl_23.trans (congrArg (fun z : Int32 × Int32 × Int32 × (Nat → Int32) × Int32 × Int32 × (Nat → Int32) => z.2.2.2.2.2.1) hx_17)
        obtain ⟨pf_24, gpf_24⟩ : ∃ z : Nat → Int32, z = pf := ⟨_, rfl⟩
        have epf_24 : pf_24 = (lpX2_readBoth_7 T_length fS inn (61) 0 u_1.1 u_1.2.1 u_1.2.2.1 u_1.2.2.2.1 u_1.2.2.2.2.1 u_1.2.2.2.2.2).2.2.2.2.2.2 := gpf_24.trans (congrArg (fun z : Int32 × Int32 × Int32 × (Nat → Int32) × Int32 × Int32 × (Nat → Int32) => z.2.2.2.2.2.2) hx_17)
        have hl : lv_has ls 3 [(2, .int i_18), (0, .ref aR), (1, .int p1)] := by subst gi_18 gwc_19 gat__20 gwf_21 gcn_22 gfl_23 gpf_24; exact hl
        have hq : kAt G A s [(aW, .inl (cW, 60, .inl wf_21)), (aP, .inl (cP, 60, .inl pf_24)), (aR, .inr (2, [.ref aW, .int wc_19, .ref aT, .ref aL, .int at__20])), (aT, .inr (5, [.ref aS, .int T_length])), (aS, .inl (cS, 60, .inl fS)), (aL, .inr (1, [.ref aP, .int cn_22, .int fl_23, .ref rL_values, .int L_top]))] H locs := by subst gi_18 gwc_19 gat__20 gwf_21 gcn_22 gfl_23 gpf_24; exact hq
        have q0f : 0 ≤ at__20.toInt := by rw [gat__20]; assumption
        have q1f : at__20.toInt ≤ 60 := by rw [gat__20]; assumption
        have w0f : 0 ≤ wc_19.toInt := by rw [gwc_19]; assumption
        have w1f : wc_19.toInt ≤ 60 := by rw [gwc_19]; assumption
        have k0f : 0 ≤ cn_22.toInt := by rw [gcn_22]; assumption
        have k1f : cn_22.toInt ≤ 60 := by rw [gcn_22]; assumption
        have hf : ((wc_19, at__20, wf_21, cn_22, fl_23, pf_24) : Int32 × Int32 × (Nat → Int32) × Int32 × Int32 × (Nat → Int32)) = fX2_readBoth inn R_waitingCount R_at fW T_length fS L_count L_fault fP := by
          exact ((congrArg (fun (u_1 : Int32 × Int32 × (Nat → Int32) × Int32 × Int32 × (Nat → Int32)) => ((let i_18 : Int32 := (lpX2_readBoth_7 T_length fS inn (61) 0 u_1.1 u_1.2.1 u_1.2.2.1 u_1.2.2.2.1 u_1.2.2.2.2.1 u_1.2.2.2.2.2).1
  let wc_19 : Int32 := (lpX2_readBoth_7 T_length fS inn (61) 0 u_1.1 u_1.2.1 u_1.2.2.1 u_1.2.2.2.1 u_1.2.2.2.2.1 u_1.2.2.2.2.2).2.1
  let at__20 : Int32 := (lpX2_readBoth_7 T_length fS inn (61) 0 u_1.1 u_1.2.1 u_1.2.2.1 u_1.2.2.2.1 u_1.2.2.2.2.1 u_1.2.2.2.2.2).2.2.1
  let wf_21 : Nat → Int32 := (lpX2_readBoth_7 T_length fS inn (61) 0 u_1.1 u_1.2.1 u_1.2.2.1 u_1.2.2.2.1 u_1.2.2.2.2.1 u_1.2.2.2.2.2).2.2.2.1
  let cn_22 : Int32 := (lpX2_readBoth_7 T_length fS inn (61) 0 u_1.1 u_1.2.1 u_1.2.2.1 u_1.2.2.2.1 u_1.2.2.2.2.1 u_1.2.2.2.2.2).2.2.2.2.1
  let fl_23 : Int32 := (lpX2_readBoth_7 T_length fS inn (61) 0 u_1.1 u_1.2.1 u_1.2.2.1 u_1.2.2.2.1 u_1.2.2.2.2.1 u_1.2.2.2.2.2).2.2.2.2.2.1
  let pf_24 : Nat → Int32 := (lpX2_readBoth_7 T_length fS inn (61) 0 u_1.1 u_1.2.1 u_1.2.2.1 u_1.2.2.2.1 u_1.2.2.2.2.1 u_1.2.2.2.2.2).2.2.2.2.2.2
  (wc_19, at__20, wf_21, cn_22, fl_23, pf_24)) : Int32 × Int32 × (Nat → Int32) × Int32 × Int32 × (Nat → Int32))) eu_1.symm).trans ((congrArg (fun (i_18 : Int32) => ((let wc_19 : Int32 := (lpX2_readBoth_7 T_length fS inn (61) 0 u_1.1 u_1.2.1 u_1.2.2.1 u_1.2.2.2.1 u_1.2.2.2.2.1 u_1.2.2.2.2.2).2.1
  let at__20 : Int32 := (lpX2_readBoth_7 T_length fS inn (61) 0 u_1.1 u_1.2.1 u_1.2.2.1 u_1.2.2.2.1 u_1.2.2.2.2.1 u_1.2.2.2.2.2).2.2.1
  let wf_21 : Nat → Int32 := (lpX2_readBoth_7 T_length fS inn (61) 0 u_1.1 u_1.2.1 u_1.2.2.1 u_1.2.2.2.1 u_1.2.2.2.2.1 u_1.2.2.2.2.2).2.2.2.1
  let cn_22 : Int32 := (lpX2_readBoth_7 T_length fS inn (61) 0 u_1.1 u_1.2.1 u_1.2.2.1 u_1.2.2.2.1 u_1.2.2.2.2.1 u_1.2.2.2.2.2).2.2.2.2.1
  let fl_23 : Int32 := (lpX2_readBoth_7 T_length fS inn (61) 0 u_1.1 u_1.2.1 u_1.2.2.1 u_1.2.2.2.1 u_1.2.2.2.2.1 u_1.2.2.2.2.2).2.2.2.2.2.1
  let pf_24 : Nat → Int32 := (lpX2_readBoth_7 T_length fS inn (61) 0 u_1.1 u_1.2.1 u_1.2.2.1 u_1.2.2.2.1 u_1.2.2.2.2.1 u_1.2.2.2.2.2).2.2.2.2.2.2
  (wc_19, at__20, wf_21, cn_22, fl_23, pf_24)) : Int32 × Int32 × (Nat → Int32) × Int32 × Int32 × (Nat → Int32))) ei_18.symm).trans ((congrArg (fun (wc_19 : Int32) => ((let at__20 : Int32 := (lpX2_readBoth_7 T_length fS inn (61) 0 u_1.1 u_1.2.1 u_1.2.2.1 u_1.2.2.2.1 u_1.2.2.2.2.1 u_1.2.2.2.2.2).2.2.1
  let wf_21 : Nat → Int32 := (lpX2_readBoth_7 T_length fS inn (61) 0 u_1.1 u_1.2.1 u_1.2.2.1 u_1.2.2.2.1 u_1.2.2.2.2.1 u_1.2.2.2.2.2).2.2.2.1
  let cn_22 : Int32 := (lpX2_readBoth_7 T_length fS inn (61) 0 u_1.1 u_1.2.1 u_1.2.2.1 u_1.2.2.2.1 u_1.2.2.2.2.1 u_1.2.2.2.2.2).2.2.2.2.1
  let fl_23 : Int32 := (lpX2_readBoth_7 T_length fS inn (61) 0 u_1.1 u_1.2.1 u_1.2.2.1 u_1.2.2.2.1 u_1.2.2.2.2.1 u_1.2.2.2.2.2).2.2.2.2.2.1
  let pf_24 : Nat → Int32 := (lpX2_readBoth_7 T_length fS inn (61) 0 u_1.1 u_1.2.1 u_1.2.2.1 u_1.2.2.2.1 u_1.2.2.2.2.1 u_1.2.2.2.2.2).2.2.2.2.2.2
  (wc_19, at__20, wf_21, cn_22, fl_23, pf_24)) : Int32 × Int32 × (Nat → Int32) × Int32 × Int32 × (Nat → Int32))) ewc_19.symm).trans ((congrArg (fun (at__20 : Int32) => ((let wf_21 : Nat → Int32 := (lpX2_readBoth_7 T_length fS inn (61) 0 u_1.1 u_1.2.1 u_1.2.2.1 u_1.2.2.2.1 u_1.2.2.2.2.1 u_1.2.2.2.2.2).2.2.2.1
  let cn_22 : Int32 := (lpX2_readBoth_7 T_length fS inn (61) 0 u_1.1 u_1.2.1 u_1.2.2.1 u_1.2.2.2.1 u_1.2.2.2.2.1 u_1.2.2.2.2.2).2.2.2.2.1
  let fl_23 : Int32 := (lpX2_readBoth_7 T_length fS inn (61) 0 u_1.1 u_1.2.1 u_1.2.2.1 u_1.2.2.2.1 u_1.2.2.2.2.1 u_1.2.2.2.2.2).2.2.2.2.2.1
  let pf_24 : Nat → Int32 := (lpX2_readBoth_7 T_length fS inn (61) 0 u_1.1 u_1.2.1 u_1.2.2.1 u_1.2.2.2.1 u_1.2.2.2.2.1 u_1.2.2.2.2.2).2.2.2.2.2.2
  (wc_19, at__20, wf_21, cn_22, fl_23, pf_24)) : Int32 × Int32 × (Nat → Int32) × Int32 × Int32 × (Nat → Int32))) eat__20.symm).trans ((congrArg (fun (wf_21 : Nat → Int32) => ((let cn_22 : Int32 := (lpX2_readBoth_7 T_length fS inn (61) 0 u_1.1 u_1.2.1 u_1.2.2.1 u_1.2.2.2.1 u_1.2.2.2.2.1 u_1.2.2.2.2.2).2.2.2.2.1
  let fl_23 : Int32 := (lpX2_readBoth_7 T_length fS inn (61) 0 u_1.1 u_1.2.1 u_1.2.2.1 u_1.2.2.2.1 u_1.2.2.2.2.1 u_1.2.2.2.2.2).2.2.2.2.2.1
  let pf_24 : Nat → Int32 := (lpX2_readBoth_7 T_length fS inn (61) 0 u_1.1 u_1.2.1 u_1.2.2.1 u_1.2.2.2.1 u_1.2.2.2.2.1 u_1.2.2.2.2.2).2.2.2.2.2.2
  (wc_19, at__20, wf_21, cn_22, fl_23, pf_24)) : Int32 × Int32 × (Nat → Int32) × Int32 × Int32 × (Nat → Int32))) ewf_21.symm).trans ((congrArg (fun (cn_22 : Int32) => ((let fl_23 : Int32 := (lpX2_readBoth_7 T_length fS inn (61) 0 u_1.1 u_1.2.1 u_1.2.2.1 u_1.2.2.2.1 u_1.2.2.2.2.1 u_1.2.2.2.2.2).2.2.2.2.2.1
  let pf_24 : Nat → Int32 := (lpX2_readBoth_7 T_length fS inn (61) 0 u_1.1 u_1.2.1 u_1.2.2.1 u_1.2.2.2.1 u_1.2.2.2.2.1 u_1.2.2.2.2.2).2.2.2.2.2.2
  (wc_19, at__20, wf_21, cn_22, fl_23, pf_24)) : Int32 × Int32 × (Nat → Int32) × Int32 × Int32 × (Nat → Int32))) ecn_22.symm).trans ((congrArg (fun (fl_23 : Int32) => ((let pf_24 : Nat → Int32 := (lpX2_readBoth_7 T_length fS inn (61) 0 u_1.1 u_1.2.1 u_1.2.2.1 u_1.2.2.2.1 u_1.2.2.2.2.1 u_1.2.2.2.2.2).2.2.2.2.2.2
  (wc_19, at__20, wf_21, cn_22, fl_23, pf_24)) : Int32 × Int32 × (Nat → Int32) × Int32 × Int32 × (Nat → Int32))) efl_23.symm).trans ((congrArg (fun (pf_24 : Nat → Int32) => (((wc_19, at__20, wf_21, cn_22, fl_23, pf_24)) : Int32 × Int32 × (Nat → Int32) × Int32 × Int32 × (Nat → Int32))) epf_24.symm))))))))).symm
        have en_0 : 0 ≤ at__20.toInt := by first | assumption | omega
        have en_1 : at__20.toInt ≤ 60 := by first | assumption | omega
        have en_2 : 0 ≤ wc_19.toInt := by first | assumption | omega
        have en_3 : wc_19.toInt ≤ 60 := by first | assumption | omega
        have en_4 : 0 ≤ cn_22.toInt := by first | assumption | omega
        have en_5 : cn_22.toInt ≤ 60 := by first | assumption | omega
        exact kk_ev hx hb hr hlocks hK hq [2, 0, 3, 4, 5, 1] (wc_19, at__20, wf_21, cn_22, fl_23, pf_24) rfl (by decide) dX2_readBoth_52 ⟨hf, en_0, en_1, en_2, en_3, en_4, en_5⟩
      · skip
        have hlt := nx_use nxh c_16 (by decide)
        refine lv_aload_n hx hb dX2_readBoth_22 rfl (lv_at hl 1 rfl) ?_
        refine lv_dup hx hb dX2_readBoth_23 rfl ?_
        refine kk_get (ci := 2) (v := .int u_13) (C := RX2) (T := TX2) (N := 5) hx hb hts iX2 hown hK hq 2 rfl rfl 4 (by decide) lk0_ rfl dX2_readBoth_24 ?_
        refine lv_iconst (v := 1) hx hb dX2_readBoth_27 (by decide) ?_
        refine lv_iadd hx hb dX2_readBoth_28 ?_
        refine lv_topi (fun at_25 eat_25 => ?_)
        refine kk_put (ws' := [(aW, .inl (cW, 60, .inl wf)), (aP, .inl (cP, 60, .inl pf)), (aR, .inr (2, [.ref aW, .int wc, .ref aT, .ref aL, .int at_25])), (aT, .inr (5, [.ref aS, .int T_length])), (aS, .inl (cS, 60, .inl fS)), (aL, .inr (1, [.ref aP, .int cn, .int fl, .ref rL_values, .int L_top]))]) (ci := 2) (v := .int at_25) (C := RX2) (T := TX2) (N := 5) hx hb hts iX2 tyX2_ok nmX2 hown hK hq 2 rfl rfl 4 (by decide) lk0_ rfl rfl rfl (Nat.le_of_ble_eq_true rfl) dX2_readBoth_29 rfl (fun H locs hq => ?_)
        have hat_25 := at_inc eat_25 (by assumption) hlt
        have q0at_25 : 0 ≤ at_25.toInt := hat_25.1
        have q1at_25 : at_25.toInt ≤ 60 := hat_25.2
        refine lv_aload_n hx hb dX2_readBoth_32 rfl (lv_at hl 1 rfl) ?_
        refine lv_iload_n hx hb dX2_readBoth_33 rfl (lv_at hl 2 rfl) ?_
        refine kk_Vv (As := [.int p1]) (rest := []) (wr := []) ⟨hx, hb, hml, hown, hts⟩ (c_X2_readHeld l G aR aW aT aS aL aP rL_values cW cS cP F Q p1 wc at_25 wf T_length fS cn fl L_top pf inn (by assumption) (by assumption) (by assumption) (by assumption) (by assumption) (by assumption) (by assumption) (by assumption)) (kk_cwV 1 hts hsb wd_214 wd_215 wd_216 wd_25 wd_239 rfl rfl hd_X2_readHeld ⟨by dsimp only [headSpec]; omega, by dsimp only [headSpec]; omega⟩) hA hK hq [2, 0, 3, 4, 5, 1] [] [0, 1, 2] rfl rfl rfl (by decide) (by decide) (by decide) 0 2 rfl rfl rfl rfl hl.1 rfl (Nat.le_of_ble_eq_true rfl) dX2_readBoth_34 ⟨Nat.zero_le _, Nat.zero_le _⟩ (fun u_26 H locs h_28 hq => ?_)
        obtain ⟨eu_26, q0_u_26, q1_u_26, w0_u_26, w1_u_26, k0_u_26, k1_u_26⟩ := h_28
        have hq : kAt G A s [(aR, .inr (2, [.ref aW, .int u_26.1, .ref aT, .ref aL, .int u_26.2.1])), (aW, .inl (cW, 60, .inl u_26.2.2.1)), (aT, .inr (5, [.ref aS, .int T_length])), (aS, .inl (cS, 60, .inl fS)), (aL, .inr (1, [.ref aP, .int u_26.2.2.2.1, .int u_26.2.2.2.2.1, .ref rL_values, .int L_top])), (aP, .inl (cP, 60, .inl u_26.2.2.2.2.2))] H locs := hq
        refine lv_aload_n hx hb dX2_readBoth_37 rfl (lv_at hl 1 rfl) ?_
        refine kk_get (ci := 2) (v := .ref aL) (C := RX2) (T := TX2) (N := 5) hx hb hts iX2 hown hK hq 0 rfl rfl 3 (by decide) lk1_ rfl dX2_readBoth_38 ?_
        refine lv_bipush (v := 38) hx hb dX2_readBoth_41 (by decide) ?_
        refine kk_Vv (As := [.int 38]) (rest := []) (wr := [(aR, .inr (2, [.ref aW, .int u_26.1, .ref aT, .ref aL, .int u_26.2.1])), (aW, .inl (cW, 60, .inl u_26.2.2.1)), (aT, .inr (5, [.ref aS, .int T_length])), (aS, .inl (cS, 60, .inl fS))]) ⟨hx, hb, hml, hown, hts⟩ (c_X1_addSign l G aL aP rL_values cP 38 u_26.2.2.2.1 u_26.2.2.2.2.1 L_top u_26.2.2.2.2.2 (by assumption) (by assumption)) (kk_cwV 1 hts hsb wd_205 wd_206 wd_207 wd_21 wd_208 rfl rfl hd_X1_addSign ⟨by dsimp only [headSpec]; omega, by dsimp only [headSpec]; omega⟩) hA hK hq [4, 5] [0, 1, 2, 3] [2] rfl rfl rfl (by decide) (by decide) (by decide) 0 1 rfl rfl rfl rfl hl.1 rfl (Nat.le_of_ble_eq_true rfl) dX2_readBoth_43 ⟨Nat.zero_le _, Nat.zero_le _⟩ (fun u_29 H locs h_31 hq => ?_)
        obtain ⟨eu_29, k0_u_29, k1_u_29⟩ := h_31
        have hq : kAt G A s [(aR, .inr (2, [.ref aW, .int u_26.1, .ref aT, .ref aL, .int u_26.2.1])), (aW, .inl (cW, 60, .inl u_26.2.2.1)), (aT, .inr (5, [.ref aS, .int T_length])), (aS, .inl (cS, 60, .inl fS)), (aL, .inr (1, [.ref aP, .int u_29.1, .int u_26.2.2.2.2.1, .ref rL_values, .int L_top])), (aP, .inl (cP, 60, .inl u_29.2))] H locs := hq
        refine lv_iinc (v := i + 1) (lv' := [(2, .int (i + 1)), (0, .ref aR), (1, .int p1)]) hx hb dX2_readBoth_46 hl (k := 0) rfl rfl (by decide) rfl (fun ls hl => ?_)
        refine lv_goto (tgt := 7) hx hb dX2_readBoth_49 (by decide) ?_
        exact ih (i + 1) u_26.1 u_26.2.1 u_26.2.2.1 u_29.1 u_26.2.2.2.2.1 u_29.2 _ _ _ ⟨(hrel.trans ((if_neg c_4).trans ((congrArg (fun (r_14 : Int32) => ((let u_5 : Int32 := (fX2_nextSign at_ T_length fS fl).2
    if r_14 = 38 then (
    let at_9 : Int32 := u_5 + 1
    let u_10 : Int32 × Int32 × (Nat → Int32) × Int32 × Int32 × (Nat → Int32) := fX2_readHeld inn wc at_9 wf T_length fS cn fl pf
    let u_13 : Int32 × (Nat → Int32) := fX1_addSign 38 u_10.2.2.2.1 u_10.2.2.2.2.2
    lpX2_readBoth_7 T_length fS inn N (i + 1) u_10.1 u_10.2.1 u_10.2.2.1 u_13.1 u_10.2.2.2.2.1 u_13.2)
    else (
    (i, wc, u_5, wf, cn, fl, pf))) : Int32 × Int32 × Int32 × (Nat → Int32) × Int32 × Int32 × (Nat → Int32))) er_14.symm).trans ((congrArg (fun (u_13 : Int32) => ((if r_14 = 38 then (
    let at_9 : Int32 := u_13 + 1
    let u_10 : Int32 × Int32 × (Nat → Int32) × Int32 × Int32 × (Nat → Int32) := fX2_readHeld inn wc at_9 wf T_length fS cn fl pf
    let u_13 : Int32 × (Nat → Int32) := fX1_addSign 38 u_10.2.2.2.1 u_10.2.2.2.2.2
    lpX2_readBoth_7 T_length fS inn N (i + 1) u_10.1 u_10.2.1 u_10.2.2.1 u_13.1 u_10.2.2.2.2.1 u_13.2)
    else (
    (i, wc, u_13, wf, cn, fl, pf))) : Int32 × Int32 × Int32 × (Nat → Int32) × Int32 × Int32 × (Nat → Int32))) eu_13.symm).trans ((if_pos c_16).trans ((congrArg (fun (at_25 : Int32) => ((let u_10 : Int32 × Int32 × (Nat → Int32) × Int32 × Int32 × (Nat → Int32) := fX2_readHeld inn wc at_25 wf T_length fS cn fl pf
    let u_13 : Int32 × (Nat → Int32) := fX1_addSign 38 u_10.2.2.2.1 u_10.2.2.2.2.2
    lpX2_readBoth_7 T_length fS inn N (i + 1) u_10.1 u_10.2.1 u_10.2.2.1 u_13.1 u_10.2.2.2.2.1 u_13.2) : Int32 × Int32 × Int32 × (Nat → Int32) × Int32 × Int32 × (Nat → Int32))) eat_25.symm).trans ((congrArg (fun (u_26 : Int32 × Int32 × (Nat → Int32) × Int32 × Int32 × (Nat → Int32)) => ((let u_13 : Int32 × (Nat → Int32) := fX1_addSign 38 u_26.2.2.2.1 u_26.2.2.2.2.2
    lpX2_readBoth_7 T_length fS inn N (i + 1) u_26.1 u_26.2.1 u_26.2.2.1 u_13.1 u_26.2.2.2.2.1 u_13.2) : Int32 × Int32 × Int32 × (Nat → Int32) × Int32 × Int32 × (Nat → Int32))) eu_26.symm).trans ((congrArg (fun (u_29 : Int32 × (Nat → Int32)) => ((lpX2_readBoth_7 T_length fS inn N (i + 1) u_26.1 u_26.2.1 u_26.2.2.1 u_29.1 u_26.2.2.2.2.1 u_29.2) : Int32 × Int32 × Int32 × (Nat → Int32) × Int32 × Int32 × (Nat → Int32))) eu_29.symm))))))))), (by have := kk_inc (x := i) (by omega); omega), (by have := kk_inc (x := i) (by omega); omega), (by have := kk_inc (x := i) (by omega); omega), (by assumption), (by assumption), (by assumption), (by assumption), (by assumption), (by assumption), lv_sub hl [0, 1, 2] rfl, hq⟩
