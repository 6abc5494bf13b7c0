theorem hd_X2_readBoth : yX2_readBoth.cls = RX2 ∧ yX2_readBoth.cls ≠ "java/lang/invoke/MethodHandle" ∧ yX2_readBoth.cls ≠ "java/lang/invoke/VarHandle" ∧ (parseMethodDescriptor yX2_readBoth.desc).map (fun d => d.parameters.length) = some 1 := by decide +kernel
def lpX2_readValue_7 (T_length : Int32) (fS : Nat → Int32) (inn : Int32 → Int32 → (Nat → Int32) → Int32 → Int32 → (Nat → Int32) → Int32 × Int32 × (Nat → Int32) × Int32 × Int32 × (Nat → Int32)) : Nat → Int32 → Int32 → Int32 → (Nat → Int32) → Int32 → Int32 → (Nat → Int32) → Int32 × Int32 × Int32 × (Nat → Int32) × Int32 × Int32 × (Nat → Int32)
  | 0, _, _, _, _, _, _, _ => (0, 0, 0, fun _ => 0, 0, 0, fun _ => 0)
  | N + 1, i, wc, at_, wf, cn, fl, pf =>
    if 60 ≤ i then (
    (i, wc, at_, wf, cn, fl, pf))
    else (
    let r_6 : Int32 := (fX2_nextSign at_ T_length fS fl).1
    let u_5 : Int32 := (fX2_nextSign at_ T_length fS fl).2
    if r_6 = 124 then (
    let at_9 : Int32 := u_5 + 1
    let u_10 : Int32 × Int32 × (Nat → Int32) × Int32 × Int32 × (Nat → Int32) := fX2_readBoth inn wc at_9 wf T_length fS cn fl pf
    let u_13 : Int32 × (Nat → Int32) := fX1_addSign 124 u_10.2.2.2.1 u_10.2.2.2.2.2
    lpX2_readValue_7 T_length fS inn N (i + 1) u_10.1 u_10.2.1 u_10.2.2.1 u_13.1 u_10.2.2.2.2.1 u_13.2)
    else (
    (i, wc, u_5, wf, cn, fl, pf)))

def fX2_readValue (inn : Int32 → Int32 → (Nat → Int32) → Int32 → Int32 → (Nat → Int32) → Int32 × Int32 × (Nat → Int32) × Int32 × Int32 × (Nat → Int32)) (R_waitingCount : Int32) (R_at : Int32) (fW : Nat → Int32) (T_length : Int32) (fS : Nat → Int32) (L_count : Int32) (L_fault : Int32) (fP : Nat → Int32) : Int32 × Int32 × (Nat → Int32) × Int32 × Int32 × (Nat → Int32) :=
  let u_1 : Int32 × Int32 × (Nat → Int32) × Int32 × Int32 × (Nat → Int32) := fX2_readBoth inn R_waitingCount R_at fW T_length fS L_count L_fault fP
  let z_12 : Int32 × Int32 × Int32 × (Nat → Int32) × Int32 × Int32 × (Nat → Int32) := lpX2_readValue_7 T_length fS inn (61) 0 u_1.1 u_1.2.1 u_1.2.2.1 u_1.2.2.2.1 u_1.2.2.2.2.1 u_1.2.2.2.2.2
  (z_12.2.1, z_12.2.2.1, z_12.2.2.2.1, z_12.2.2.2.2.1, z_12.2.2.2.2.2.1, z_12.2.2.2.2.2.2)

set_option maxHeartbeats 4000000 in
set_option maxRecDepth 100000 in
theorem c_X2_readValue (l : Launch) (G : va_G) (aR aW aT aS aL aP rL_values : Nat) (cW cS cP : ClassId) (F Q : Nat) (p1 : Int32) (R_waitingCount : Int32) (R_at : Int32) (fW : Nat → Int32) (T_length : Int32) (fS : Nat → Int32) (L_count : Int32) (L_fault : Int32) (L_top : Int32) (fP : Nat → Int32) (inn : Int32 → Int32 → (Nat → Int32) → Int32 → Int32 → (Nat → Int32) → Int32 × Int32 × (Nat → Int32) × Int32 × Int32 × (Nat → Int32)) (q0 : 0 ≤ R_at.toInt) (q1 : R_at.toInt ≤ 60) (n1 : T_length.toInt ≤ 60) (w0 : 0 ≤ R_waitingCount.toInt) (w1 : R_waitingCount.toInt ≤ 60) (k0 : 0 ≤ L_count.toInt) (k1 : L_count.toInt ≤ 60) (hI : hy_inner l G aR aW aT aS aL aP rL_values cW cS cP F Q p1 T_length fS inn) : kCv l yX2_readValue (Cond.code yX2_readValue cX2_readValue 3 none :: wsL_law) ({ frames := F + 9, cells := 0, slots := 0, locals := Q + 199 }) G [(cW, .int), (cS, .int), (cP, .int)] [.ref aR, .int p1] [(aR, .inr (2, [.ref aW, .int R_waitingCount, .ref aT, .ref aL, .int R_at])), (aW, .inl (cW, 60, .inl fW)), (aT, .inr (5, [.ref aS, .int T_length])), (aS, .inl (cS, 60, .inl fS)), (aL, .inr (1, [.ref aP, .int L_count, .int L_fault, .ref rL_values, .int L_top])), (aP, .inl (cP, 60, .inl fP))] (fun (u : Int32 × Int32 × (Nat → Int32) × Int32 × Int32 × (Nat → Int32)) => u = fX2_readValue inn R_waitingCount R_at fW T_length fS L_count L_fault fP ∧ (0 ≤ u.2.1.toInt) ∧ (u.2.1.toInt ≤ 60) ∧ (0 ≤ u.1.toInt) ∧ (u.1.toInt ≤ 60) ∧ (0 ≤ u.2.2.2.1.toInt) ∧ (u.2.2.2.1.toInt ≤ 60)) (fun (u : Int32 × Int32 × (Nat → Int32) × Int32 × Int32 × (Nat → Int32)) => [(aR, .inr (2, [.ref aW, .int u.1, .ref aT, .ref aL, .int u.2.1])), (aW, .inl (cW, 60, .inl u.2.2.1)), (aT, .inr (5, [.ref aS, .int T_length])), (aS, .inl (cS, 60, .inl fS)), (aL, .inr (1, [.ref aP, .int u.2.2.2.1, .int u.2.2.2.2.1, .ref rL_values, .int L_top])), (aP, .inl (cP, 60, .inl u.2.2.2.2.2))]) := by
  intro sz
  refine Met.ofW (cc := cX2_readValue) (maxL := 3) (ret := none) (by decide) rfl ?_
  intro p e s m args below meth c s₁ B hml hv
  obtain ⟨rfl, hv⟩ := hv
  obtain ⟨rfl, hK, hq, hA⟩ := kk_begin hv
  have hx := B.exec
  have hb := B.bytes
  have hr := B.returns
  have hts := atoms_spec (ws := (Cond.code yX2_readValue cX2_readValue 3 none :: wsL_law)) B.pre
  have hown : s.vm.findClass RX2 = some m.cls := findClass_of_methodNamed B.named
  have hlocks := B.notSynchronized
  have hsb : ∀ w ∈ wsL_law, w ∈ (Cond.code yX2_readValue cX2_readValue 3 none :: wsL_law) := fun _ h => List.mem_cons_of_mem _ h
  generalize va_A [(aR, .inr (2, [.ref aW, .int R_waitingCount, .ref aT, .ref aL, .int R_at])), (aW, .inl (cW, 60, .inl fW)), (aT, .inr (5, [.ref aS, .int T_length])), (aS, .inl (cS, 60, .inl fS)), (aL, .inr (1, [.ref aP, .int L_count, .int L_fault, .ref rL_values, .int L_top])), (aP, .inl (cP, 60, .inl fP))] s.heap.size = A at hq hA ⊢
  have iX2 : ∀ w ∈ u_ws RX2 TX2 5, w ∈ (Cond.code yX2_readValue cX2_readValue 3 none :: wsL_law) := fun w h => hsb w (bin_X2 w h)
  have lk0_ := hts _ (hsb _ wd_110)
  have lk1_ := hts _ (hsb _ wd_112)
  have hl := lv_entry ([.ref aR, .int p1]) (n := 3) (Nat.le_of_ble_eq_true rfl)
  rw [lg_entry_eq]
  generalize (lg_sl ([.ref aR, .int p1]) ++ List.replicate (3 - (lg_sl ([.ref aR, .int p1])).length) Slot.unset).toArray = ls at hl ⊢
  have hl : lv_has ls 3 [(0, .ref aR), (1, .int p1)] := hl
  refine lv_aload_n hx hb dX2_readValue_0 rfl (lv_at hl 0 rfl) ?_
  refine lv_iload_n hx hb dX2_readValue_1 rfl (lv_at hl 1 rfl) ?_
  refine kk_Vv (As := [.int p1]) (rest := []) (wr := []) ⟨hx, hb, hml, hown, hts⟩ (c_X2_readBoth l G aR aW aT aS aL aP rL_values cW cS cP F Q p1 R_waitingCount R_at fW T_length fS L_count L_fault L_top fP inn (by assumption) (by assumption) (by assumption) (by assumption) (by assumption) (by assumption) (by assumption) (by assumption)) (kk_cwV 1 hts hsb wd_192 wd_193 wd_194 wd_25 wd_213 rfl rfl hd_X2_readBoth ⟨by dsimp only [headSpec]; omega, by dsimp only [headSpec]; omega⟩) hA hK hq [0, 1, 2, 3, 4, 5] [] [0, 1, 2] rfl rfl rfl (by decide) (by decide) (by decide) 0 2 rfl rfl rfl rfl hl.1 rfl (Nat.le_of_ble_eq_true rfl) dX2_readValue_2 ⟨Nat.zero_le _, Nat.zero_le _⟩ (fun u_1 H locs h_3 hq => ?_)
  obtain ⟨eu_1, q0_u_1, q1_u_1, w0_u_1, w1_u_1, k0_u_1, k1_u_1⟩ := h_3
  have hq : kAt G A s [(aR, .inr (2, [.ref aW, .int u_1.1, .ref aT, .ref aL, .int u_1.2.1])), (aW, .inl (cW, 60, .inl u_1.2.2.1)), (aT, .inr (5, [.ref aS, .int T_length])), (aS, .inl (cS, 60, .inl fS)), (aL, .inr (1, [.ref aP, .int u_1.2.2.2.1, .int u_1.2.2.2.2.1, .ref rL_values, .int L_top])), (aP, .inl (cP, 60, .inl u_1.2.2.2.2.2))] H locs := hq
  refine lv_iconst (v := 0) hx hb dX2_readValue_5 (by decide) ?_
  refine lv_istore_n (lv' := [(2, .int 0), (0, .ref aR), (1, .int p1)]) hx hb dX2_readValue_6 rfl hl (by decide) rfl (fun ls hl => ?_)
  refine kk_loop7 (fun N (i : Int32) (wc : Int32) (at_ : Int32) (wf : Nat → Int32) (cn : Int32) (fl : Int32) (pf : Nat → Int32) (H : Heap) (locs : List Loc) (ls : Array Slot) => lpX2_readValue_7 T_length fS inn (61) 0 u_1.1 u_1.2.1 u_1.2.2.1 u_1.2.2.2.1 u_1.2.2.2.2.1 u_1.2.2.2.2.2 = lpX2_readValue_7 T_length fS inn N i wc at_ wf cn fl pf ∧ (0 ≤ i.toInt) ∧ (i.toInt ≤ 60) ∧ (i.toInt + N = 61) ∧ (0 ≤ at_.toInt) ∧ (at_.toInt ≤ 60) ∧ (0 ≤ wc.toInt) ∧ (wc.toInt ≤ 60) ∧ (0 ≤ cn.toInt) ∧ (cn.toInt ≤ 60) ∧ lv_has ls 3 [(2, .int i), (0, .ref aR), (1, .int p1)] ∧ kAt G A s [(aR, .inr (2, [.ref aW, .int wc, .ref aT, .ref aL, .int at_])), (aW, .inl (cW, 60, .inl wf)), (aT, .inr (5, [.ref aS, .int T_length])), (aS, .inl (cS, 60, .inl fS)), (aL, .inr (1, [.ref aP, .int cn, .int fl, .ref rL_values, .int L_top])), (aP, .inl (cP, 60, .inl pf))] H locs) 7 (fun i wc at_ wf cn fl pf => []) (fun i wc at_ wf cn fl pf H locs ls hv => ?_) (fun N i wc at_ wf cn fl pf H locs ls ih hv => ?_) (61) 0 u_1.1 u_1.2.1 u_1.2.2.1 u_1.2.2.2.1 u_1.2.2.2.2.1 u_1.2.2.2.2.2 _ _ _ ⟨rfl, (by decide), (by decide), (by decide), (by assumption), (by assumption), (by assumption), (by assumption), (by assumption), (by assumption), lv_sub hl [0, 1, 2] rfl, hq⟩
  · skip
    obtain ⟨hrel, i0, i1, hN, ap0, ap1, v0, v1, d0, d1, hl, hq⟩ := hv
    omega
  · skip
    obtain ⟨hrel, i0, i1, hN, ap0, ap1, v0, v1, d0, d1, hl, hq⟩ := hv
    refine lv_iload_n hx hb dX2_readValue_7 rfl (lv_at hl 0 rfl) ?_
    refine lv_bipush (v := 60) hx hb dX2_readValue_8 (by decide) ?_
    refine lv_icmp_ge (tgt := 52) hx hb dX2_readValue_10 (by decide) (fun c_4 => ?_) (fun c_4 => ?_)
    · skip
      have hx_5 : ((i, wc, at_, wf, cn, fl, pf) : Int32 × Int32 × Int32 × (Nat → Int32) × Int32 × Int32 × (Nat → Int32)) = lpX2_readValue_7 T_length fS inn (61) 0 u_1.1 u_1.2.1 u_1.2.2.1 u_1.2.2.2.1 u_1.2.2.2.2.1 u_1.2.2.2.2.2 := (hrel.trans ((if_pos c_4))).symm
      obtain ⟨z_6, gz_6⟩ : ∃ z : Int32 × Int32 × Int32 × (Nat → Int32) × Int32 × Int32 × (Nat → Int32), z = (i, wc, at_, wf, cn, fl, pf) := ⟨_, rfl⟩
      have ez_6 : z_6 = lpX2_readValue_7 T_length fS inn (61) 0 u_1.1 u_1.2.1 u_1.2.2.1 u_1.2.2.2.1 u_1.2.2.2.2.1 u_1.2.2.2.2.2 := gz_6.trans hx_5
      have hl : lv_has ls 3 [(2, .int z_6.1), (0, .ref aR), (1, .int p1)] := by subst gz_6; exact hl
      have hq : kAt G A s [(aR, .inr (2, [.ref aW, .int z_6.2.1, .ref aT, .ref aL, .int z_6.2.2.1])), (aW, .inl (cW, 60, .inl z_6.2.2.2.1)), (aT, .inr (5, [.ref aS, .int T_length])), (aS, .inl (cS, 60, .inl fS)), (aL, .inr (1, [.ref aP, .int z_6.2.2.2.2.1, .int z_6.2.2.2.2.2.1, .ref rL_values, .int L_top])), (aP, .inl (cP, 60, .inl z_6.2.2.2.2.2.2))] H locs := by subst gz_6; exact hq
      have q0f : 0 ≤ z_6.2.2.1.toInt := by subst gz_6; assumption
      have q1f : z_6.2.2.1.toInt ≤ 60 := by subst gz_6; assumption
      have w0f : 0 ≤ z_6.2.1.toInt := by subst gz_6; assumption
      have w1f : z_6.2.1.toInt ≤ 60 := by subst gz_6; assumption
      have k0f : 0 ≤ z_6.2.2.2.2.1.toInt := by subst gz_6; assumption
      have k1f : z_6.2.2.2.2.1.toInt ≤ 60 := by subst gz_6; assumption
      have hf : ((z_6.2.1, z_6.2.2.1, z_6.2.2.2.1, z_6.2.2.2.2.1, z_6.2.2.2.2.2.1, z_6.2.2.2.2.2.2) : Int32 × Int32 × (Nat → Int32) × Int32 × Int32 × (Nat → Int32)) = fX2_readValue inn R_waitingCount R_at fW T_length fS L_count L_fault fP := by
        exact ((congrArg (fun (u_1 : Int32 × Int32 × (Nat → Int32) × Int32 × Int32 × (Nat → Int32)) => ((let z_12 : Int32 × Int32 × Int32 × (Nat → Int32) × Int32 × Int32 × (Nat → Int32) := lpX2_readValue_7 T_length fS inn (61) 0 u_1.1 u_1.2.1 u_1.2.2.1 u_1.2.2.2.1 u_1.2.2.2.2.1 u_1.2.2.2.2.2
  (z_12.2.1, z_12.2.2.1, z_12.2.2.2.1, z_12.2.2.2.2.1, z_12.2.2.2.2.2.1, z_12.2.2.2.2.2.2)) : Int32 × Int32 × (Nat → Int32) × Int32 × Int32 × (Nat → Int32))) eu_1.symm).trans ((congrArg (fun (z_6 : Int32 × Int32 × Int32 × (Nat → Int32) × Int32 × Int32 × (Nat → Int32)) => (((z_6.2.1, z_6.2.2.1, z_6.2.2.2.1, z_6.2.2.2.2.1, z_6.2.2.2.2.2.1, z_6.2.2.2.2.2.2)) : Int32 × Int32 × (Nat → Int32) × Int32 × Int32 × (Nat → Int32))) ez_6.symm))).symm
      have en_0 : 0 ≤ z_6.2.2.1.toInt := by first | assumption | omega
      have en_1 : z_6.2.2.1.toInt ≤ 60 := by first | assumption | omega
      have en_2 : 0 ≤ z_6.2.1.toInt := by first | assumption | omega
      have en_3 : z_6.2.1.toInt ≤ 60 := by first | assumption | omega
      have en_4 : 0 ≤ z_6.2.2.2.2.1.toInt := by first | assumption | omega
      have en_5 : z_6.2.2.2.2.1.toInt ≤ 60 := by first | assumption | omega
      exact kk_ev hx hb hr hlocks hK hq [0, 1, 2, 3, 4, 5] (z_6.2.1, z_6.2.2.1, z_6.2.2.2.1, z_6.2.2.2.2.1, z_6.2.2.2.2.2.1, z_6.2.2.2.2.2.2) rfl (by decide) dX2_readValue_52 ⟨hf, en_0, en_1, en_2, en_3, en_4, en_5⟩
    · skip
      have hi6 := kk_nle (k := 60) rfl c_4
      refine lv_aload_n hx hb dX2_readValue_13 rfl (lv_at hl 1 rfl) ?_
      refine kk_Vi (As := []) (rest := []) (wr := [(aW, .inl (cW, 60, .inl wf)), (aP, .inl (cP, 60, .inl pf))]) ⟨hx, hb, hml, hown, hts⟩ (c_X2_nextSign l G aR aT aS aL aW aP rL_values cS wc at_ T_length fS cn fl L_top (by assumption) (by assumption) (by assumption)) (kk_cwV 0 hts hsb wd_195 wd_196 wd_197 wd_25 wd_198 rfl rfl hd_X2_nextSign ⟨by dsimp only [headSpec]; omega, by dsimp only [headSpec]; omega⟩) hA hK hq [0, 2, 3, 4] [1, 5] [1] rfl rfl rfl (by decide) (by decide) (by decide) 0 2 rfl rfl rfl rfl hl.1 rfl (Nat.le_of_ble_eq_true rfl) dX2_readValue_14 ⟨Nat.zero_le _, Nat.zero_le _⟩ (fun r_8 u_7 H locs h_9 hq => ?_)
      obtain ⟨er_8, eu_7, q0_u_7, q1_u_7, nx_u_7⟩ := h_9
      have hq : kAt G A s [(aW, .inl (cW, 60, .inl wf)), (aP, .inl (cP, 60, .inl pf)), (aR, .inr (2, [.ref aW, .int wc, .ref aT, .ref aL, .int u_7])), (aT, .inr (5, [.ref aS, .int T_length])), (aS, .inl (cS, 60, .inl fS)), (aL, .inr (1, [.ref aP, .int cn, .int fl, .ref rL_values, .int L_top]))] H locs := hq
      have nxh := nx_u_7
      refine lv_bipush (v := 124) hx hb dX2_readValue_17 (by decide) ?_
      refine lv_icmp_ne (tgt := 52) hx hb dX2_readValue_19 (by decide) (fun c_10 => ?_) (fun c_10 => ?_)
      · skip
        have hx_11 : ((i, wc, u_7, wf, cn, fl, pf) : Int32 × Int32 × Int32 × (Nat → Int32) × Int32 × Int32 × (Nat → Int32)) = lpX2_readValue_7 T_length fS inn (61) 0 u_1.1 u_1.2.1 u_1.2.2.1 u_1.2.2.2.1 u_1.2.2.2.2.1 u_1.2.2.2.2.2 := (hrel.trans ((if_neg c_4).trans ((congrArg (fun (r_8 : Int32) => ((let u_5 : Int32 := (fX2_nextSign at_ T_length fS fl).2
    if r_8 = 124 then (
    let at_9 : Int32 := u_5 + 1
    let u_10 : Int32 × Int32 × (Nat → Int32) × Int32 × Int32 × (Nat → Int32) := fX2_readBoth inn wc at_9 wf T_length fS cn fl pf
    let u_13 : Int32 × (Nat → Int32) := fX1_addSign 124 u_10.2.2.2.1 u_10.2.2.2.2.2
    lpX2_readValue_7 T_length fS inn N (i + 1) u_10.1 u_10.2.1 u_10.2.2.1 u_13.1 u_10.2.2.2.2.1 u_13.2)
    else (
    (i, wc, u_5, wf, cn, fl, pf))) : Int32 × Int32 × Int32 × (Nat → Int32) × Int32 × Int32 × (Nat → Int32))) er_8.symm).trans ((congrArg (fun (u_7 : Int32) => ((if r_8 = 124 then (
    let at_9 : Int32 := u_7 + 1
    let u_10 : Int32 × Int32 × (Nat → Int32) × Int32 × Int32 × (Nat → Int32) := fX2_readBoth inn wc at_9 wf T_length fS cn fl pf
    let u_13 : Int32 × (Nat → Int32) := fX1_addSign 124 u_10.2.2.2.1 u_10.2.2.2.2.2
    lpX2_readValue_7 T_length fS inn N (i + 1) u_10.1 u_10.2.1 u_10.2.2.1 u_13.1 u_10.2.2.2.2.1 u_13.2)
    else (
    (i, wc, u_7, wf, cn, fl, pf))) : Int32 × Int32 × Int32 × (Nat → Int32) × Int32 × Int32 × (Nat → Int32))) eu_7.symm).trans ((if_neg c_10)))))).symm
        obtain ⟨z_12, gz_12⟩ : ∃ z : Int32 × Int32 × Int32 × (Nat → Int32) × Int32 × Int32 × (Nat → Int32), z = (i, wc, u_7, wf, cn, fl, pf) := ⟨_, rfl⟩
        have ez_12 : z_12 = lpX2_readValue_7 T_length fS inn (61) 0 u_1.1 u_1.2.1 u_1.2.2.1 u_1.2.2.2.1 u_1.2.2.2.2.1 u_1.2.2.2.2.2 := gz_12.trans hx_11
        have hl : lv_has ls 3 [(2, .int z_12.1), (0, .ref aR), (1, .int p1)] := by subst gz_12; exact hl
        have hq : kAt G A s [(aW, .inl (cW, 60, .inl z_12.2.2.2.1)), (aP, .inl (cP, 60, .inl z_12.2.2.2.2.2.2)), (aR, .inr (2, [.ref aW, .int z_12.2.1, .ref aT, .ref aL, .int z_12.2.2.1])), (aT, .inr (5, [.ref aS, .int T_length])), (aS, .inl (cS, 60, .inl fS)), (aL, .inr (1, [.ref aP, .int z_12.2.2.2.2.1, .int z_12.2.2.2.2.2.1, .ref rL_values, .int L_top]))] H locs := by subst gz_12; exact hq
        have q0f : 0 ≤ z_12.2.2.1.toInt := by subst gz_12; assumption
        have q1f : z_12.2.2.1.toInt ≤ 60 := by subst gz_12; assumption
        have w0f : 0 ≤ z_12.2.1.toInt := by subst gz_12; assumption
        have w1f : z_12.2.1.toInt ≤ 60 := by subst gz_12; assumption
        have k0f : 0 ≤ z_12.2.2.2.2.1.toInt := by subst gz_12; assumption
        have k1f : z_12.2.2.2.2.1.toInt ≤ 60 := by subst gz_12; assumption
        have hf : ((z_12.2.1, z_12.2.2.1, z_12.2.2.2.1, z_12.2.2.2.2.1, z_12.2.2.2.2.2.1, z_12.2.2.2.2.2.2) : Int32 × Int32 × (Nat → Int32) × Int32 × Int32 × (Nat → Int32)) = fX2_readValue inn R_waitingCount R_at fW T_length fS L_count L_fault fP := by
          exact ((congrArg (fun (u_1 : Int32 × Int32 × (Nat → Int32) × Int32 × Int32 × (Nat → Int32)) => ((let z_12 : Int32 × Int32 × Int32 × (Nat → Int32) × Int32 × Int32 × (Nat → Int32) := lpX2_readValue_7 T_length fS inn (61) 0 u_1.1 u_1.2.1 u_1.2.2.1 u_1.2.2.2.1 u_1.2.2.2.2.1 u_1.2.2.2.2.2
  (z_12.2.1, z_12.2.2.1, z_12.2.2.2.1, z_12.2.2.2.2.1, z_12.2.2.2.2.2.1, z_12.2.2.2.2.2.2)) : Int32 × Int32 × (Nat → Int32) × Int32 × Int32 × (Nat → Int32))) eu_1.symm).trans ((congrArg (fun (z_12 : Int32 × Int32 × Int32 × (Nat → Int32) × Int32 × Int32 × (Nat → Int32)) => (((z_12.2.1, z_12.2.2.1, z_12.2.2.2.1, z_12.2.2.2.2.1, z_12.2.2.2.2.2.1, z_12.2.2.2.2.2.2)) : Int32 × Int32 × (Nat → Int32) × Int32 × Int32 × (Nat → Int32))) ez_12.symm))).symm
        have en_0 : 0 ≤ z_12.2.2.1.toInt := by first | assumption | omega
        have en_1 : z_12.2.2.1.toInt ≤ 60 := by first | assumption | omega
        have en_2 : 0 ≤ z_12.2.1.toInt := by first | assumption | omega
        have en_3 : z_12.2.1.toInt ≤ 60 := by first | assumption | omega
        have en_4 : 0 ≤ z_12.2.2.2.2.1.toInt := by first | assumption | omega
        have en_5 : z_12.2.2.2.2.1.toInt ≤ 60 := by first | assumption | omega
        exact kk_ev hx hb hr hlocks hK hq [2, 0, 3, 4, 5, 1] (z_12.2.1, z_12.2.2.1, z_12.2.2.2.1, z_12.2.2.2.2.1, z_12.2.2.2.2.2.1, z_12.2.2.2.2.2.2) rfl (by decide) dX2_readValue_52 ⟨hf, en_0, en_1, en_2, en_3, en_4, en_5⟩
      · skip
        have hlt := nx_use nxh c_10 (by decide)
        refine lv_aload_n hx hb dX2_readValue_22 rfl (lv_at hl 1 rfl) ?_
        refine lv_dup hx hb dX2_readValue_23 rfl ?_
        refine kk_get (ci := 2) (v := .int u_7) (C := RX2) (T := TX2) (N := 5) hx hb hts iX2 hown hK hq 2 rfl rfl 4 (by decide) lk0_ rfl dX2_readValue_24 ?_
        refine lv_iconst (v := 1) hx hb dX2_readValue_27 (by decide) ?_
        refine lv_iadd hx hb dX2_readValue_28 ?_
        refine lv_topi (fun at_13 eat_13 => ?_)
        refine kk_put (ws' := [(aW, .inl (cW, 60, .inl wf)), (aP, .inl (cP, 60, .inl pf)), (aR, .inr (2, [.ref aW, .int wc, .ref aT, .ref aL, .int at_13])), (aT, .inr (5, [.ref aS, .int T_length])), (aS, .inl (cS, 60, .inl fS)), (aL, .inr (1, [.ref aP, .int cn, .int fl, .ref rL_values, .int L_top]))]) (ci := 2) (v := .int at_13) (C := RX2) (T := TX2) (N := 5) hx hb hts iX2 tyX2_ok nmX2 hown hK hq 2 rfl rfl 4 (by decide) lk0_ rfl rfl rfl (Nat.le_of_ble_eq_true rfl) dX2_readValue_29 rfl (fun H locs hq => ?_)
        have hat_13 := at_inc eat_13 (by assumption) hlt
        have q0at_13 : 0 ≤ at_13.toInt := hat_13.1
        have q1at_13 : at_13.toInt ≤ 60 := hat_13.2
        refine lv_aload_n hx hb dX2_readValue_32 rfl (lv_at hl 1 rfl) ?_
        refine lv_iload_n hx hb dX2_readValue_33 rfl (lv_at hl 2 rfl) ?_
        refine kk_Vv (As := [.int p1]) (rest := []) (wr := []) ⟨hx, hb, hml, hown, hts⟩ (c_X2_readBoth l G aR aW aT aS aL aP rL_values cW cS cP F Q p1 wc at_13 wf T_length fS cn fl L_top pf inn (by assumption) (by assumption) (by assumption) (by assumption) (by assumption) (by assumption) (by assumption) (by assumption)) (kk_cwV 1 hts hsb wd_192 wd_193 wd_194 wd_25 wd_213 rfl rfl hd_X2_readBoth ⟨by dsimp only [headSpec]; omega, by dsimp only [headSpec]; omega⟩) hA hK hq [2, 0, 3, 4, 5, 1] [] [0, 1, 2] rfl rfl rfl (by decide) (by decide) (by decide) 0 2 rfl rfl rfl rfl hl.1 rfl (Nat.le_of_ble_eq_true rfl) dX2_readValue_34 ⟨Nat.zero_le _, Nat.zero_le _⟩ (fun u_14 H locs h_16 hq => ?_)
        obtain ⟨eu_14, q0_u_14, q1_u_14, w0_u_14, w1_u_14, k0_u_14, k1_u_14⟩ := h_16
        have hq : kAt G A s [(aR, .inr (2, [.ref aW, .int u_14.1, .ref aT, .ref aL, .int u_14.2.1])), (aW, .inl (cW, 60, .inl u_14.2.2.1)), (aT, .inr (5, [.ref aS, .int T_length])), (aS, .inl (cS, 60, .inl fS)), (aL, .inr (1, [.ref aP, .int u_14.2.2.2.1, .int u_14.2.2.2.2.1, .ref rL_values, .int L_top])), (aP, .inl (cP, 60, .inl u_14.2.2.2.2.2))] H locs := hq
        refine lv_aload_n hx hb dX2_readValue_37 rfl (lv_at hl 1 rfl) ?_
        refine kk_get (ci := 2) (v := .ref aL) (C := RX2) (T := TX2) (N := 5) hx hb hts iX2 hown hK hq 0 rfl rfl 3 (by decide) lk1_ rfl dX2_readValue_38 ?_
        refine lv_bipush (v := 124) hx hb dX2_readValue_41 (by decide) ?_
        refine kk_Vv (As := [.int 124]) (rest := []) (wr := [(aR, .inr (2, [.ref aW, .int u_14.1, .ref aT, .ref aL, .int u_14.2.1])), (aW, .inl (cW, 60, .inl u_14.2.2.1)), (aT, .inr (5, [.ref aS, .int T_length])), (aS, .inl (cS, 60, .inl fS))]) ⟨hx, hb, hml, hown, hts⟩ (c_X1_addSign l G aL aP rL_values cP 124 u_14.2.2.2.1 u_14.2.2.2.2.1 L_top u_14.2.2.2.2.2 (by assumption) (by assumption)) (kk_cwV 1 hts hsb wd_205 wd_206 wd_207 wd_21 wd_208 rfl rfl hd_X1_addSign ⟨by dsimp only [headSpec]; omega, by dsimp only [headSpec]; omega⟩) hA hK hq [4, 5] [0, 1, 2, 3] [2] rfl rfl rfl (by decide) (by decide) (by decide) 0 1 rfl rfl rfl rfl hl.1 rfl (Nat.le_of_ble_eq_true rfl) dX2_readValue_43 ⟨Nat.zero_le _, Nat.zero_le _⟩ (fun u_17 H locs h_19 hq => ?_)
        obtain ⟨eu_17, k0_u_17, k1_u_17⟩ := h_19
        have hq : kAt G A s [(aR, .inr (2, [.ref aW, .int u_14.1, .ref aT, .ref aL, .int u_14.2.1])), (aW, .inl (cW, 60, .inl u_14.2.2.1)), (aT, .inr (5, [.ref aS, .int T_length])), (aS, .inl (cS, 60, .inl fS)), (aL, .inr (1, [.ref aP, .int u_17.1, .int u_14.2.2.2.2.1, .ref rL_values, .int L_top])), (aP, .inl (cP, 60, .inl u_17.2))] H locs := hq
        refine lv_iinc (v := i + 1) (lv' := [(2, .int (i + 1)), (0, .ref aR), (1, .int p1)]) hx hb dX2_readValue_46 hl (k := 0) rfl rfl (by decide) rfl (fun ls hl => ?_)
        refine lv_goto (tgt := 7) hx hb dX2_readValue_49 (by decide) ?_
        exact ih (i + 1) u_14.1 u_14.2.1 u_14.2.2.1 u_17.1 u_14.2.2.2.2.1 u_17.2 _ _ _ ⟨(hrel.trans ((if_neg c_4).trans ((congrArg (fun (r_8 : Int32) => ((let u_5 : Int32 := (fX2_nextSign at_ T_length fS fl).2
    if r_8 = 124 then (
    let at_9 : Int32 := u_5 + 1
    let u_10 : Int32 × Int32 × (Nat → Int32) × Int32 × Int32 × (Nat → Int32) := fX2_readBoth inn wc at_9 wf T_length fS cn fl pf
    let u_13 : Int32 × (Nat → Int32) := fX1_addSign 124 u_10.2.2.2.1 u_10.2.2.2.2.2
    lpX2_readValue_7 T_length fS inn N (i + 1) u_10.1 u_10.2.1 u_10.2.2.1 u_13.1 u_10.2.2.2.2.1 u_13.2)
    else (
    (i, wc, u_5, wf, cn, fl, pf))) : Int32 × Int32 × Int32 × (Nat → Int32) × Int32 × Int32 × (Nat → Int32))) er_8.symm).trans ((congrArg (fun (u_7 : Int32) => ((if r_8 = 124 then (
    let at_9 : Int32 := u_7 + 1
    let u_10 : Int32 × Int32 × (Nat → Int32) × Int32 × Int32 × (Nat → Int32) := fX2_readBoth inn wc at_9 wf T_length fS cn fl pf
    let u_13 : Int32 × (Nat → Int32) := fX1_addSign 124 u_10.2.2.2.1 u_10.2.2.2.2.2
    lpX2_readValue_7 T_length fS inn N (i + 1) u_10.1 u_10.2.1 u_10.2.2.1 u_13.1 u_10.2.2.2.2.1 u_13.2)
    else (
    (i, wc, u_7, wf, cn, fl, pf))) : Int32 × Int32 × Int32 × (Nat → Int32) × Int32 × Int32 × (Nat → Int32))) eu_7.symm).trans ((if_pos c_10).trans ((congrArg (fun (at_13 : Int32) => ((let u_10 : Int32 × Int32 × (Nat → Int32) × Int32 × Int32 × (Nat → Int32) := fX2_readBoth inn wc at_13 wf T_length fS cn fl pf
    let u_13 : Int32 × (Nat → Int32) := fX1_addSign 124 u_10.2.2.2.1 u_10.2.2.2.2.2
    lpX2_readValue_7 T_length fS inn N (i + 1) u_10.1 u_10.2.1 u_10.2.2.1 u_13.1 u_10.2.2.2.2.1 u_13.2) : Int32 × Int32 × Int32 × (Nat → Int32) × Int32 × Int32 × (Nat → Int32))) eat_13.symm).trans ((congrArg (fun (u_14 : Int32 × Int32 × (Nat → Int32) × Int32 × Int32 × (Nat → Int32)) => ((let u_13 : Int32 × (Nat → Int32) := fX1_addSign 124 u_14.2.2.2.1 u_14.2.2.2.2.2
    lpX2_readValue_7 T_length fS inn N (i + 1) u_14.1 u_14.2.1 u_14.2.2.1 u_13.1 u_14.2.2.2.2.1 u_13.2) : Int32 × Int32 × Int32 × (Nat → Int32) × Int32 × Int32 × (Nat → Int32))) eu_14.symm).trans ((congrArg (fun (u_17 : Int32 × (Nat → Int32)) => ((lpX2_readValue_7 T_length fS inn N (i + 1) u_14.1 u_14.2.1 u_14.2.2.1 u_17.1 u_14.2.2.2.2.1 u_17.2) : Int32 × Int32 × Int32 × (Nat → Int32) × Int32 × Int32 × (Nat → Int32))) eu_17.symm))))))))), (by have := kk_inc (x := i) (by omega); omega), (by have := kk_inc (x := i) (by omega); omega), (by have := kk_inc (x := i) (by omega); omega), (by assumption), (by assumption), (by assumption), (by assumption), (by assumption), (by assumption), lv_sub hl [0, 1, 2] rfl, hq⟩
