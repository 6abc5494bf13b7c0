def inn_ (T_length : Int32) (fS : Nat → Int32) : Nat → Int32 → Int32 → (Nat → Int32) → Int32 → Int32 → (Nat → Int32) → Int32 × Int32 × (Nat → Int32) × Int32 × Int32 × (Nat → Int32)
  | 0 => fX2_readInner_0
  | d + 1 => fun wc at_ fW cnt flt fP => fX2_readInner_1 (inn_ T_length fS d) wc at_ fW T_length fS cnt flt fP
def fd_ : Nat → Nat
  | 0 => 1
  | d + 1 => fd_ d + 10
def qd_ : Nat → Nat
  | 0 => 22
  | d + 1 => qd_ d + 221
theorem hy_all (l : Launch) (G : va_G) (aR aW aT aS aL aP rL_values : Nat) (cW cS cP : ClassId) (T_length : Int32) (fS : Nat → Int32) (n1 : T_length.toInt ≤ 60) : ∀ d, d ≤ 8 → hy_inner l G aR aW aT aS aL aP rL_values cW cS cP (fd_ d) (qd_ d) (nI (8 - d)) T_length fS (inn_ T_length fS d) := by
  intro d
  induction d with
  | zero =>
    intro _ wc at_ fW cnt flt top fP q0 q1 w0 w1 k0 k1 hlt
    exact c_X2_readInner_0 l G aR aW aT aS aL aP rL_values cW cS cP (nI 8) wc at_ fW T_length fS cnt flt top fP q0 q1 n1 w0 w1 k0 k1 (by decide)
  | succ d ih =>
    intro hd wc at_ fW cnt flt top fP q0 q1 w0 w1 k0 k1 hlt
    have h := ih (by omega)
    have hp : nI (8 - (d + 1)) < 8 := nI_lt (b := 8) (by omega) (by decide)
    have hp1 : nI (8 - (d + 1)) + 1 = nI (8 - d) := by
      rw [nI_1]; congr 1; omega
    exact c_X2_readInner_1 l G aR aW aT aS aL aP rL_values cW cS cP (fd_ d) (qd_ d) (nI (8 - (d + 1))) wc at_ fW T_length fS cnt flt top fP (inn_ T_length fS d) q0 q1 n1 w0 w1 k0 k1 hp hlt (by rw [hp1]; exact h)
theorem hy_top (l : Launch) (G : va_G) (aR aW aT aS aL aP rL_values : Nat) (cW cS cP : ClassId) (T_length : Int32) (fS : Nat → Int32) (n1 : T_length.toInt ≤ 60) : hy_inner l G aR aW aT aS aL aP rL_values cW cS cP 81 1790 0 T_length fS (inn_ T_length fS 8) := hy_all l G aR aW aT aS aL aP rL_values cW cS cP T_length fS n1 8 (by decide)
theorem hd_X1_clear : yX1_clear.cls = RX1 ∧ yX1_clear.cls ≠ "java/lang/invoke/MethodHandle" ∧ yX1_clear.cls ≠ "java/lang/invoke/VarHandle" ∧ (parseMethodDescriptor yX1_clear.desc).map (fun d => d.parameters.length) = some 0 := by decide +kernel
def fX2_readAll (fW : Nat → Int32) (T_length : Int32) (fS : Nat → Int32) (fP : Nat → Int32) : Int32 × Int32 × (Nat → Int32) × Int32 × Int32 × (Nat → Int32) :=
  let u_1 : Int32 × Int32 := fX1_clear
  let u_4 : Int32 × Int32 × (Nat → Int32) × Int32 × Int32 × (Nat → Int32) := fX2_readValue (inn_ T_length fS 8) 0 0 fW T_length fS u_1.1 u_1.2 fP
  let r_8 : Int32 := (fX2_nextSign u_4.2.1 T_length fS u_4.2.2.2.2.1).1
  let u_7 : Int32 := (fX2_nextSign u_4.2.1 T_length fS u_4.2.2.2.2.1).2
  if r_8 = (-1) then (
    (u_4.1, u_7, u_4.2.2.1, u_4.2.2.2.1, u_4.2.2.2.2.1, u_4.2.2.2.2.2))
  else (
    let u_11 : Int32 := fX2_refuse u_7 1 u_4.2.2.2.2.1
    (u_4.1, u_7, u_4.2.2.1, u_4.2.2.2.1, u_11, u_4.2.2.2.2.2))

set_option maxHeartbeats 4000000 in
set_option maxRecDepth 100000 in
theorem c_X2_readAll (l : Launch) (G : va_G) (aR aW aT aS aL aP rL_values : Nat) (cW cS cP : ClassId) (R_waitingCount : Int32) (R_at : Int32) (fW : Nat → Int32) (T_length : Int32) (fS : Nat → Int32) (L_count : Int32) (L_fault : Int32) (L_top : Int32) (fP : Nat → Int32) (n1 : T_length.toInt ≤ 60) : kCv l yX2_readAll (Cond.code yX2_readAll cX2_readAll 1 none :: wsL_law) ({ frames := 91, cells := 0, slots := 0, locals := 2011 }) G [(cW, .int), (cS, .int), (cP, .int)] [.ref aR] [(aR, .inr (2, [.ref aW, .int R_waitingCount, .ref aT, .ref aL, .int R_at])), (aW, .inl (cW, 60, .inl fW)), (aT, .inr (5, [.ref aS, .int T_length])), (aS, .inl (cS, 60, .inl fS)), (aL, .inr (1, [.ref aP, .int L_count, .int L_fault, .ref rL_values, .int L_top])), (aP, .inl (cP, 60, .inl fP))] (fun (u : Int32 × Int32 × (Nat → Int32) × Int32 × Int32 × (Nat → Int32)) => u = fX2_readAll fW T_length fS fP ∧ (0 ≤ u.2.2.2.1.toInt) ∧ (u.2.2.2.1.toInt ≤ 60)) (fun (u : Int32 × Int32 × (Nat → Int32) × Int32 × Int32 × (Nat → Int32)) => [(aR, .inr (2, [.ref aW, .int u.1, .ref aT, .ref aL, .int u.2.1])), (aW, .inl (cW, 60, .inl u.2.2.1)), (aT, .inr (5, [.ref aS, .int T_length])), (aS, .inl (cS, 60, .inl fS)), (aL, .inr (1, [.ref aP, .int u.2.2.2.1, .int u.2.2.2.2.1, .ref rL_values, .int L_top])), (aP, .inl (cP, 60, .inl u.2.2.2.2.2))]) := by
  intro sz
  refine Met.ofW (cc := cX2_readAll) (maxL := 1) (ret := none) (by decide) rfl ?_
  intro p e s m args below meth c s₁ B hml hv
  obtain ⟨rfl, hv⟩ := hv
  obtain ⟨rfl, hK, hq, hA⟩ := kk_begin hv
  have hx := B.exec
  have hb := B.bytes
  have hr := B.returns
  have hts := atoms_spec (ws := (Cond.code yX2_readAll cX2_readAll 1 none :: wsL_law)) B.pre
  have hown : s.vm.findClass RX2 = some m.cls := findClass_of_methodNamed B.named
  have hlocks := B.notSynchronized
  have hsb : ∀ w ∈ wsL_law, w ∈ (Cond.code yX2_readAll cX2_readAll 1 none :: wsL_law) := fun _ h => List.mem_cons_of_mem _ h
  generalize va_A [(aR, .inr (2, [.ref aW, .int R_waitingCount, .ref aT, .ref aL, .int R_at])), (aW, .inl (cW, 60, .inl fW)), (aT, .inr (5, [.ref aS, .int T_length])), (aS, .inl (cS, 60, .inl fS)), (aL, .inr (1, [.ref aP, .int L_count, .int L_fault, .ref rL_values, .int L_top])), (aP, .inl (cP, 60, .inl fP))] s.heap.size = A at hq hA ⊢
  have iX2 : ∀ w ∈ u_ws RX2 TX2 5, w ∈ (Cond.code yX2_readAll cX2_readAll 1 none :: wsL_law) := fun w h => hsb w (bin_X2 w h)
  have lk0_ := hts _ (hsb _ wd_110)
  have lk1_ := hts _ (hsb _ wd_109)
  have lk2_ := hts _ (hsb _ wd_112)
  have hl := lv_entry ([.ref aR]) (n := 1) (Nat.le_of_ble_eq_true rfl)
  rw [lg_entry_eq]
  generalize (lg_sl ([.ref aR]) ++ List.replicate (1 - (lg_sl ([.ref aR])).length) Slot.unset).toArray = ls at hl ⊢
  have hl : lv_has ls 1 [(0, .ref aR)] := hl
  refine lv_aload_n hx hb dX2_readAll_0 rfl (lv_at hl 0 rfl) ?_
  refine lv_iconst (v := 0) hx hb dX2_readAll_1 (by decide) ?_
  refine kk_put (ws' := [(aR, .inr (2, [.ref aW, .int R_waitingCount, .ref aT, .ref aL, .int 0])), (aW, .inl (cW, 60, .inl fW)), (aT, .inr (5, [.ref aS, .int T_length])), (aS, .inl (cS, 60, .inl fS)), (aL, .inr (1, [.ref aP, .int L_count, .int L_fault, .ref rL_values, .int L_top])), (aP, .inl (cP, 60, .inl fP))]) (ci := 2) (v := .int 0) (C := RX2) (T := TX2) (N := 5) hx hb hts iX2 tyX2_ok nmX2 hown hK hq 0 rfl rfl 4 (by decide) lk0_ rfl rfl rfl (Nat.le_of_ble_eq_true rfl) dX2_readAll_2 rfl (fun H locs hq => ?_)
  refine lv_aload_n hx hb dX2_readAll_5 rfl (lv_at hl 0 rfl) ?_
  refine lv_iconst (v := 0) hx hb dX2_readAll_6 (by decide) ?_
  refine kk_put (ws' := [(aR, .inr (2, [.ref aW, .int 0, .ref aT, .ref aL, .int 0])), (aW, .inl (cW, 60, .inl fW)), (aT, .inr (5, [.ref aS, .int T_length])), (aS, .inl (cS, 60, .inl fS)), (aL, .inr (1, [.ref aP, .int L_count, .int L_fault, .ref rL_values, .int L_top])), (aP, .inl (cP, 60, .inl fP))]) (ci := 2) (v := .int 0) (C := RX2) (T := TX2) (N := 5) hx hb hts iX2 tyX2_ok nmX2 hown hK hq 0 rfl rfl 1 (by decide) lk1_ rfl rfl rfl (Nat.le_of_ble_eq_true rfl) dX2_readAll_7 rfl (fun H locs hq => ?_)
  refine lv_aload_n hx hb dX2_readAll_10 rfl (lv_at hl 0 rfl) ?_
  refine kk_get (ci := 2) (v := .ref aL) (C := RX2) (T := TX2) (N := 5) hx hb hts iX2 hown hK hq 0 rfl rfl 3 (by decide) lk2_ rfl dX2_readAll_11 ?_
  refine kk_Vv (As := []) (rest := []) (wr := [(aR, .inr (2, [.ref aW, .int 0, .ref aT, .ref aL, .int 0])), (aW, .inl (cW, 60, .inl fW)), (aT, .inr (5, [.ref aS, .int T_length])), (aS, .inl (cS, 60, .inl fS)), (aP, .inl (cP, 60, .inl fP))]) ⟨hx, hb, hml, hown, hts⟩ (c_X1_clear l G aL aP rL_values L_count L_fault L_top) (kk_cwV 0 hts hsb wd_184 wd_185 wd_186 wd_21 wd_187 rfl rfl hd_X1_clear ⟨Nat.le_of_ble_eq_true rfl, Nat.le_of_ble_eq_true rfl⟩) hA hK hq [4] [0, 1, 2, 3, 5] [] rfl rfl rfl (by decide) (by decide) (by decide) 0 1 rfl rfl rfl rfl hl.1 rfl (Nat.le_of_ble_eq_true rfl) dX2_readAll_14 ⟨Nat.zero_le _, Nat.zero_le _⟩ (fun u_1 H locs h_3 hq => ?_)
  have eu_1 := h_3
  have hq : kAt G A s [(aR, .inr (2, [.ref aW, .int 0, .ref aT, .ref aL, .int 0])), (aW, .inl (cW, 60, .inl fW)), (aT, .inr (5, [.ref aS, .int T_length])), (aS, .inl (cS, 60, .inl fS)), (aP, .inl (cP, 60, .inl fP)), (aL, .inr (1, [.ref aP, .int u_1.1, .int u_1.2, .ref rL_values, .int L_top]))] H locs := hq
  have k0c : 0 ≤ u_1.1.toInt := by rw [eu_1]; decide
  have k1c : u_1.1.toInt ≤ 60 := by rw [eu_1]; decide
  refine lv_aload_n hx hb dX2_readAll_17 rfl (lv_at hl 0 rfl) ?_
  refine lv_iconst (v := 0) hx hb dX2_readAll_18 (by decide) ?_
  refine kk_Vv (As := [.int 0]) (rest := []) (wr := []) ⟨hx, hb, hml, hown, hts⟩ (c_X2_readValue l G aR aW aT aS aL aP rL_values cW cS cP 81 1790 0 0 0 fW T_length fS u_1.1 u_1.2 L_top fP (inn_ T_length fS 8) (by decide) (by decide) n1 (by decide) (by decide) (by assumption) (by assumption) (hy_top l G aR aW aT aS aL aP rL_values cW cS cP T_length fS n1)) (kk_cwV 1 hts hsb wd_188 wd_189 wd_190 wd_25 wd_191 rfl rfl hd_X2_readValue ⟨Nat.le_of_ble_eq_true rfl, Nat.le_of_ble_eq_true rfl⟩) hA hK hq [0, 1, 2, 3, 5, 4] [] [0, 1, 2] rfl rfl rfl (by decide) (by decide) (by decide) 0 2 rfl rfl rfl rfl hl.1 rfl (Nat.le_of_ble_eq_true rfl) dX2_readAll_19 ⟨Nat.zero_le _, Nat.zero_le _⟩ (fun u_4 H locs h_6 hq => ?_)
  obtain ⟨eu_4, q0_u_4, q1_u_4, w0_u_4, w1_u_4, k0_u_4, k1_u_4⟩ := h_6
  have hq : kAt G A s [(aR, .inr (2, [.ref aW, .int u_4.1, .ref aT, .ref aL, .int u_4.2.1])), (aW, .inl (cW, 60, .inl u_4.2.2.1)), (aT, .inr (5, [.ref aS, .int T_length])), (aS, .inl (cS, 60, .inl fS)), (aL, .inr (1, [.ref aP, .int u_4.2.2.2.1, .int u_4.2.2.2.2.1, .ref rL_values, .int L_top])), (aP, .inl (cP, 60, .inl u_4.2.2.2.2.2))] H locs := hq
  refine lv_aload_n hx hb dX2_readAll_22 rfl (lv_at hl 0 rfl) ?_
  refine kk_Vi (As := []) (rest := []) (wr := [(aW, .inl (cW, 60, .inl u_4.2.2.1)), (aP, .inl (cP, 60, .inl u_4.2.2.2.2.2))]) ⟨hx, hb, hml, hown, hts⟩ (c_X2_nextSign l G aR aT aS aL aW aP rL_values cS u_4.1 u_4.2.1 T_length fS u_4.2.2.2.1 u_4.2.2.2.2.1 L_top (by assumption) (by assumption) (by assumption)) (kk_cwV 0 hts hsb wd_195 wd_196 wd_197 wd_25 wd_198 rfl rfl hd_X2_nextSign ⟨Nat.le_of_ble_eq_true rfl, Nat.le_of_ble_eq_true rfl⟩) hA hK hq [0, 2, 3, 4] [1, 5] [1] rfl rfl rfl (by decide) (by decide) (by decide) 0 2 rfl rfl rfl rfl hl.1 rfl (Nat.le_of_ble_eq_true rfl) dX2_readAll_23 ⟨Nat.zero_le _, Nat.zero_le _⟩ (fun r_8 u_7 H locs h_9 hq => ?_)
  obtain ⟨er_8, eu_7, q0_u_7, q1_u_7, nx_u_7⟩ := h_9
  have hq : kAt G A s [(aW, .inl (cW, 60, .inl u_4.2.2.1)), (aP, .inl (cP, 60, .inl u_4.2.2.2.2.2)), (aR, .inr (2, [.ref aW, .int u_4.1, .ref aT, .ref aL, .int u_7])), (aT, .inr (5, [.ref aS, .int T_length])), (aS, .inl (cS, 60, .inl fS)), (aL, .inr (1, [.ref aP, .int u_4.2.2.2.1, .int u_4.2.2.2.2.1, .ref rL_values, .int L_top]))] H locs := hq
  refine lv_iconst (v := -1) hx hb dX2_readAll_26 (by decide) ?_
  refine lv_icmp_eq (tgt := 39) hx hb dX2_readAll_27 (by decide) (fun c_10 => ?_) (fun c_10 => ?_)
  · skip
    have hf : ((u_4.1, u_7, u_4.2.2.1, u_4.2.2.2.1, u_4.2.2.2.2.1, u_4.2.2.2.2.2) : Int32 × Int32 × (Nat → Int32) × Int32 × Int32 × (Nat → Int32)) = fX2_readAll fW T_length fS fP := by
      exact ((congrArg (fun (u_1 : Int32 × Int32) => ((let u_4 : Int32 × Int32 × (Nat → Int32) × Int32 × Int32 × (Nat → Int32) := fX2_readValue (inn_ T_length fS 8) 0 0 fW T_length fS u_1.1 u_1.2 fP
  let r_8 : Int32 := (fX2_nextSign u_4.2.1 T_length fS u_4.2.2.2.2.1).1
  let u_7 : Int32 := (fX2_nextSign u_4.2.1 T_length fS u_4.2.2.2.2.1).2
  if r_8 = (-1) then (
    (u_4.1, u_7, u_4.2.2.1, u_4.2.2.2.1, u_4.2.2.2.2.1, u_4.2.2.2.2.2))
  else (
    let u_11 : Int32 := fX2_refuse u_7 1 u_4.2.2.2.2.1
    (u_4.1, u_7, u_4.2.2.1, u_4.2.2.2.1, u_11, u_4.2.2.2.2.2))) : Int32 × Int32 × (Nat → Int32) × Int32 × Int32 × (Nat → Int32))) eu_1.symm).trans ((congrArg (fun (u_4 : Int32 × Int32 × (Nat → Int32) × Int32 × Int32 × (Nat → Int32)) => ((let r_8 : Int32 := (fX2_nextSign u_4.2.1 T_length fS u_4.2.2.2.2.1).1
  let u_7 : Int32 := (fX2_nextSign u_4.2.1 T_length fS u_4.2.2.2.2.1).2
  if r_8 = (-1) then (
    (u_4.1, u_7, u_4.2.2.1, u_4.2.2.2.1, u_4.2.2.2.2.1, u_4.2.2.2.2.2))
  else (
    let u_11 : Int32 := fX2_refuse u_7 1 u_4.2.2.2.2.1
    (u_4.1, u_7, u_4.2.2.1, u_4.2.2.2.1, u_11, u_4.2.2.2.2.2))) : Int32 × Int32 × (Nat → Int32) × Int32 × Int32 × (Nat → Int32))) eu_4.symm).trans ((congrArg (fun (r_8 : Int32) => ((let u_7 : Int32 := (fX2_nextSign u_4.2.1 T_length fS u_4.2.2.2.2.1).2
  if r_8 = (-1) then (
    (u_4.1, u_7, u_4.2.2.1, u_4.2.2.2.1, u_4.2.2.2.2.1, u_4.2.2.2.2.2))
  else (
    let u_11 : Int32 := fX2_refuse u_7 1 u_4.2.2.2.2.1
    (u_4.1, u_7, u_4.2.2.1, u_4.2.2.2.1, u_11, u_4.2.2.2.2.2))) : Int32 × Int32 × (Nat → Int32) × Int32 × Int32 × (Nat → Int32))) er_8.symm).trans ((congrArg (fun (u_7 : Int32) => ((if r_8 = (-1) then (
    (u_4.1, u_7, u_4.2.2.1, u_4.2.2.2.1, u_4.2.2.2.2.1, u_4.2.2.2.2.2))
  else (
    let u_11 : Int32 := fX2_refuse u_7 1 u_4.2.2.2.2.1
    (u_4.1, u_7, u_4.2.2.1, u_4.2.2.2.1, u_11, u_4.2.2.2.2.2))) : Int32 × Int32 × (Nat → Int32) × Int32 × Int32 × (Nat → Int32))) eu_7.symm).trans ((if_pos c_10)))))).symm
    have en_0 : 0 ≤ u_4.2.2.2.1.toInt := by first | assumption | omega
    have en_1 : u_4.2.2.2.1.toInt ≤ 60 := by first | assumption | omega
    exact kk_ev hx hb hr hlocks hK hq [2, 0, 3, 4, 5, 1] (u_4.1, u_7, u_4.2.2.1, u_4.2.2.2.1, u_4.2.2.2.2.1, u_4.2.2.2.2.2) rfl (by decide) dX2_readAll_39 ⟨hf, en_0, en_1⟩
  · skip
    refine lv_aload_n hx hb dX2_readAll_30 rfl (lv_at hl 0 rfl) ?_
    refine lv_aload_n hx hb dX2_readAll_31 rfl (lv_at hl 0 rfl) ?_
    refine kk_get (ci := 2) (v := .int u_7) (C := RX2) (T := TX2) (N := 5) hx hb hts iX2 hown hK hq 2 rfl rfl 4 (by decide) lk0_ rfl dX2_readAll_32 ?_
    refine lv_iconst (v := 1) hx hb dX2_readAll_35 (by decide) ?_
    refine kk_Vv (As := [.int u_7, .int 1]) (rest := []) (wr := [(aW, .inl (cW, 60, .inl u_4.2.2.1)), (aP, .inl (cP, 60, .inl u_4.2.2.2.2.2)), (aT, .inr (5, [.ref aS, .int T_length])), (aS, .inl (cS, 60, .inl fS))]) ⟨hx, hb, hml, hown, hts⟩ (c_X2_refuse l G aR aL aW aT aP rL_values u_7 1 u_4.1 u_7 u_4.2.2.2.1 u_4.2.2.2.2.1 L_top) (kk_cwV 2 hts hsb wd_225 wd_226 wd_227 wd_25 wd_228 rfl rfl hd_X2_refuse ⟨Nat.le_of_ble_eq_true rfl, Nat.le_of_ble_eq_true rfl⟩) hA hK hq [2, 5] [0, 1, 3, 4] [] rfl rfl rfl (by decide) (by decide) (by decide) 0 2 rfl rfl rfl rfl hl.1 rfl (Nat.le_of_ble_eq_true rfl) dX2_readAll_36 ⟨Nat.zero_le _, Nat.zero_le _⟩ (fun u_11 H locs h_13 hq => ?_)
    have eu_11 := h_13
    have hq : kAt G A s [(aW, .inl (cW, 60, .inl u_4.2.2.1)), (aP, .inl (cP, 60, .inl u_4.2.2.2.2.2)), (aT, .inr (5, [.ref aS, .int T_length])), (aS, .inl (cS, 60, .inl fS)), (aR, .inr (2, [.ref aW, .int u_4.1, .ref aT, .ref aL, .int u_7])), (aL, .inr (1, [.ref aP, .int u_4.2.2.2.1, .int u_11, .ref rL_values, .int L_top]))] H locs := hq
    have hf : ((u_4.1, u_7, u_4.2.2.1, u_4.2.2.2.1, u_11, u_4.2.2.2.2.2) : Int32 × Int32 × (Nat → Int32) × Int32 × Int32 × (Nat → Int32)) = fX2_readAll fW T_length fS fP := by
      exact ((congrArg (fun (u_1 : Int32 × Int32) => ((let u_4 : Int32 × Int32 × (Nat → Int32) × Int32 × Int32 × (Nat → Int32) := fX2_readValue (inn_ T_length fS 8) 0 0 fW T_length fS u_1.1 u_1.2 fP
  let r_8 : Int32 := (fX2_nextSign u_4.2.1 T_length fS u_4.2.2.2.2.1).1
  let u_7 : Int32 := (fX2_nextSign u_4.2.1 T_length fS u_4.2.2.2.2.1).2
  if r_8 = (-1) then (
    (u_4.1, u_7, u_4.2.2.1, u_4.2.2.2.1, u_4.2.2.2.2.1, u_4.2.2.2.2.2))
  else (
    let u_11 : Int32 := fX2_refuse u_7 1 u_4.2.2.2.2.1
    (u_4.1, u_7, u_4.2.2.1, u_4.2.2.2.1, u_11, u_4.2.2.2.2.2))) : Int32 × Int32 × (Nat → Int32) × Int32 × Int32 × (Nat → Int32))) eu_1.symm).trans ((congrArg (fun (u_4 : Int32 × Int32 × (Nat → Int32) × Int32 × Int32 × (Nat → Int32)) => ((let r_8 : Int32 := (fX2_nextSign u_4.2.1 T_length fS u_4.2.2.2.2.1).1
  let u_7 : Int32 := (fX2_nextSign u_4.2.1 T_length fS u_4.2.2.2.2.1).2
  if r_8 = (-1) then (
    (u_4.1, u_7, u_4.2.2.1, u_4.2.2.2.1, u_4.2.2.2.2.1, u_4.2.2.2.2.2))
  else (
    let u_11 : Int32 := fX2_refuse u_7 1 u_4.2.2.2.2.1
    (u_4.1, u_7, u_4.2.2.1, u_4.2.2.2.1, u_11, u_4.2.2.2.2.2))) : Int32 × Int32 × (Nat → Int32) × Int32 × Int32 × (Nat → Int32))) eu_4.symm).trans ((congrArg (fun (r_8 : Int32) => ((let u_7 : Int32 := (fX2_nextSign u_4.2.1 T_length fS u_4.2.2.2.2.1).2
  if r_8 = (-1) then (
    (u_4.1, u_7, u_4.2.2.1, u_4.2.2.2.1, u_4.2.2.2.2.1, u_4.2.2.2.2.2))
  else (
    let u_11 : Int32 := fX2_refuse u_7 1 u_4.2.2.2.2.1
    (u_4.1, u_7, u_4.2.2.1, u_4.2.2.2.1, u_11, u_4.2.2.2.2.2))) : Int32 × Int32 × (Nat → Int32) × Int32 × Int32 × (Nat → Int32))) er_8.symm).trans ((congrArg (fun (u_7 : Int32) => ((if r_8 = (-1) then (
    (u_4.1, u_7, u_4.2.2.1, u_4.2.2.2.1, u_4.2.2.2.2.1, u_4.2.2.2.2.2))
  else (
    let u_11 : Int32 := fX2_refuse u_7 1 u_4.2.2.2.2.1
    (u_4.1, u_7, u_4.2.2.1, u_4.2.2.2.1, u_11, u_4.2.2.2.2.2))) : Int32 × Int32 × (Nat → Int32) × Int32 × Int32 × (Nat → Int32))) eu_7.symm).trans ((if_neg c_10).trans ((congrArg (fun (u_11 : Int32) => (((u_4.1, u_7, u_4.2.2.1, u_4.2.2.2.1, u_11, u_4.2.2.2.2.2)) : Int32 × Int32 × (Nat → Int32) × Int32 × Int32 × (Nat → Int32))) eu_11.symm))))))).symm
    have en_0 : 0 ≤ u_4.2.2.2.1.toInt := by first | assumption | omega
    have en_1 : u_4.2.2.2.1.toInt ≤ 60 := by first | assumption | omega
    exact kk_ev hx hb hr hlocks hK hq [4, 0, 2, 3, 5, 1] (u_4.1, u_7, u_4.2.2.1, u_4.2.2.2.1, u_11, u_4.2.2.2.2.2) rfl (by decide) dX2_readAll_39 ⟨hf, en_0, en_1⟩
