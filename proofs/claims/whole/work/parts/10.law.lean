def fX1_clear : Int32 × Int32 :=
  (0, (-1))

set_option maxHeartbeats 4000000 in
set_option maxRecDepth 100000 in
theorem c_X1_clear (l : Launch) (G : va_G) (aL rL_parts rL_values : Nat) (L_count : Int32) (L_fault : Int32) (L_top : Int32) : kCv l yX1_clear (Cond.code yX1_clear cX1_clear 1 none :: wsL_law) ({ frames := 0, cells := 0, slots := 0, locals := 0 }) G [] [.ref aL] [(aL, .inr (1, [.ref rL_parts, .int L_count, .int L_fault, .ref rL_values, .int L_top]))] (fun (u : Int32 × Int32) => u = fX1_clear) (fun (u : Int32 × Int32) => [(aL, .inr (1, [.ref rL_parts, .int u.1, .int u.2, .ref rL_values, .int L_top]))]) := by
  intro sz
  refine Met.ofW (cc := cX1_clear) (maxL := 1) (ret := none) (by decide) rfl ?_
  intro p e s m args below meth c s₁ B hml hv
  obtain ⟨rfl, hv⟩ := hv
  obtain ⟨rfl, hK, hq, hA⟩ := kk_begin hv
  have hx := B.exec
  have hb := B.bytes
  have hr := B.returns
  have hts := atoms_spec (ws := (Cond.code yX1_clear cX1_clear 1 none :: wsL_law)) B.pre
  have hown : s.vm.findClass RX1 = some m.cls := findClass_of_methodNamed B.named
  have hlocks := B.notSynchronized
  have hsb : ∀ w ∈ wsL_law, w ∈ (Cond.code yX1_clear cX1_clear 1 none :: wsL_law) := fun _ h => List.mem_cons_of_mem _ h
  generalize va_A [(aL, .inr (1, [.ref rL_parts, .int L_count, .int L_fault, .ref rL_values, .int L_top]))] s.heap.size = A at hq hA ⊢
  have iX1 : ∀ w ∈ u_ws RX1 TX1 5, w ∈ (Cond.code yX1_clear cX1_clear 1 none :: wsL_law) := fun w h => hsb w (bin_X1 w h)
  have lk0_ := hts _ (hsb _ wd_99)
  have lk1_ := hts _ (hsb _ wd_100)
  have hl := lv_entry ([.ref aL]) (n := 1) (Nat.le_of_ble_eq_true rfl)
  rw [lg_entry_eq]
  generalize (lg_sl ([.ref aL]) ++ List.replicate (1 - (lg_sl ([.ref aL])).length) Slot.unset).toArray = ls at hl ⊢
  have hl : lv_has ls 1 [(0, .ref aL)] := hl
  refine lv_aload_n hx hb dX1_clear_0 rfl (lv_at hl 0 rfl) ?_
  refine lv_iconst (v := 0) hx hb dX1_clear_1 (by decide) ?_
  refine kk_put (ws' := [(aL, .inr (1, [.ref rL_parts, .int 0, .int L_fault, .ref rL_values, .int L_top]))]) (ci := 1) (v := .int 0) (C := RX1) (T := TX1) (N := 5) hx hb hts iX1 tyX1_ok nmX1 hown hK hq 0 rfl rfl 1 (by decide) lk0_ rfl rfl rfl (Nat.le_of_ble_eq_true rfl) dX1_clear_2 rfl (fun H locs hq => ?_)
  refine lv_aload_n hx hb dX1_clear_5 rfl (lv_at hl 0 rfl) ?_
  refine lv_iconst (v := -1) hx hb dX1_clear_6 (by decide) ?_
  refine kk_put (ws' := [(aL, .inr (1, [.ref rL_parts, .int 0, .int (-1), .ref rL_values, .int L_top]))]) (ci := 1) (v := .int (-1)) (C := RX1) (T := TX1) (N := 5) hx hb hts iX1 tyX1_ok nmX1 hown hK hq 0 rfl rfl 2 (by decide) lk1_ rfl rfl rfl (Nat.le_of_ble_eq_true rfl) dX1_clear_7 rfl (fun H locs hq => ?_)
  have hf : ((0, (-1)) : Int32 × Int32) = fX1_clear := by
    exact rfl
  exact kk_ev hx hb hr hlocks hK hq [0] (0, (-1)) rfl (by decide) dX1_clear_10 hf
def fX1_truth (p1 : Int32) : Int64 :=
  let z0_2 : Int64 := if p1 = 0 then 0 else 1
  z0_2

set_option maxHeartbeats 4000000 in
set_option maxRecDepth 100000 in
theorem c_X1_truth (l : Launch) (G : va_G) (p1 : Int32) : kCl l yX1_truth (Cond.code yX1_truth cX1_truth 1 (some .long) :: wsL_law) ({ frames := 0, cells := 0, slots := 0, locals := 0 }) G [] [.int p1] [] (fun (r : Int64) (_ : Unit) => r = fX1_truth p1) (fun (_ : Unit) => []) := by
  intro sz
  refine Met.ofW (cc := cX1_truth) (maxL := 1) (ret := (some .long)) (by decide) rfl ?_
  intro p e s m args below meth c s₁ B hml hv
  obtain ⟨rfl, hv⟩ := hv
  obtain ⟨rfl, hK, hq, hA⟩ := kk_begin hv
  have hx := B.exec
  have hb := B.bytes
  have hr := B.returns
  have hts := atoms_spec (ws := (Cond.code yX1_truth cX1_truth 1 (some .long) :: wsL_law)) B.pre
  have hown : s.vm.findClass RX1 = some m.cls := findClass_of_methodNamed B.named
  have hlocks := B.notSynchronized
  have hsb : ∀ w ∈ wsL_law, w ∈ (Cond.code yX1_truth cX1_truth 1 (some .long) :: wsL_law) := fun _ h => List.mem_cons_of_mem _ h
  generalize va_A [] s.heap.size = A at hq hA ⊢
  have hl := lv_entry ([.int p1]) (n := 1) (Nat.le_of_ble_eq_true rfl)
  rw [lg_entry_eq]
  generalize (lg_sl ([.int p1]) ++ List.replicate (1 - (lg_sl ([.int p1])).length) Slot.unset).toArray = ls at hl ⊢
  have hl : lv_has ls 1 [(0, .int p1)] := hl
  refine lv_iload_n hx hb dX1_truth_0 rfl (lv_at hl 0 rfl) ?_
  refine kk_join1 (fun (z0_2 : Int64) (H : Heap) (locs : List Loc) (ls : Array Slot) => z0_2 = (if p1 = 0 then 0 else 1) ∧ lv_has ls 1 [(0, .int p1)] ∧ kAt G A s [] H locs) 9 (fun z0_2 => [.long z0_2]) (fun z0_2 H locs ls hv => ?_) (fun J_3 => ?_)
  · skip
    obtain ⟨ez0_2, hl, hq⟩ := hv
    have hf : (z0_2 : Int64) = fX1_truth p1 := by
      exact ((congrArg (fun (z0_2 : Int64) => ((z0_2) : Int64)) ez0_2.symm)).symm
    exact kk_el hx hb hr hlocks hK hq [] () rfl (by decide) dX1_truth_9 hf
  · skip
    refine lv_if_eq (tgt := 8) hx hb dX1_truth_1 (by decide) (fun c_1 => ?_) (fun c_1 => ?_)
    · skip
      refine lv_lconst (v := 0) hx hb dX1_truth_8 (by decide) ?_
      exact J_3 0 _ _ _ ⟨(if_pos c_1).symm, lv_sub hl [0] rfl, hq⟩
    · skip
      refine lv_lconst (v := 1) hx hb dX1_truth_4 (by decide) ?_
      refine lv_goto (tgt := 9) hx hb dX1_truth_5 (by decide) ?_
      exact J_3 1 _ _ _ ⟨(if_neg c_1).symm, lv_sub hl [0] rfl, hq⟩
def fX1_add (p1 : Int32) (L_count : Int32) (fP : Nat → Int32) : Int32 × (Nat → Int32) :=
  let count_2 : Int32 := if 60 ≤ L_count then L_count else L_count + 1
  let gP_3 : Nat → Int32 := if 60 ≤ L_count then fP else upd fP L_count.toNatClampNeg p1
  (count_2, gP_3)

set_option maxHeartbeats 4000000 in
set_option maxRecDepth 100000 in
theorem c_X1_add (l : Launch) (G : va_G) (aL aP rL_values : Nat) (cP : ClassId) (p1 : Int32) (L_count : Int32) (L_fault : Int32) (L_top : Int32) (fP : Nat → Int32) (k0 : 0 ≤ L_count.toInt) (k1 : L_count.toInt ≤ 60) : kCv l yX1_add (Cond.code yX1_add cX1_add 2 none :: wsL_law) ({ frames := 0, cells := 0, slots := 0, locals := 0 }) G [(cP, .int)] [.ref aL, .int p1] [(aL, .inr (1, [.ref aP, .int L_count, .int L_fault, .ref rL_values, .int L_top])), (aP, .inl (cP, 60, .inl fP))] (fun (u : Int32 × (Nat → Int32)) => u = fX1_add p1 L_count fP ∧ (0 ≤ u.1.toInt) ∧ (u.1.toInt ≤ 60)) (fun (u : Int32 × (Nat → Int32)) => [(aL, .inr (1, [.ref aP, .int u.1, .int L_fault, .ref rL_values, .int L_top])), (aP, .inl (cP, 60, .inl u.2))]) := by
  intro sz
  refine Met.ofW (cc := cX1_add) (maxL := 2) (ret := none) (by decide) rfl ?_
  intro p e s m args below meth c s₁ B hml hv
  obtain ⟨rfl, hv⟩ := hv
  obtain ⟨rfl, hK, hq, hA⟩ := kk_begin hv
  have hx := B.exec
  have hb := B.bytes
  have hr := B.returns
  have hts := atoms_spec (ws := (Cond.code yX1_add cX1_add 2 none :: wsL_law)) B.pre
  have hown : s.vm.findClass RX1 = some m.cls := findClass_of_methodNamed B.named
  have hlocks := B.notSynchronized
  have hsb : ∀ w ∈ wsL_law, w ∈ (Cond.code yX1_add cX1_add 2 none :: wsL_law) := fun _ h => List.mem_cons_of_mem _ h
  generalize va_A [(aL, .inr (1, [.ref aP, .int L_count, .int L_fault, .ref rL_values, .int L_top])), (aP, .inl (cP, 60, .inl fP))] s.heap.size = A at hq hA ⊢
  have iX1 : ∀ w ∈ u_ws RX1 TX1 5, w ∈ (Cond.code yX1_add cX1_add 2 none :: wsL_law) := fun w h => hsb w (bin_X1 w h)
  have lk0_ := hts _ (hsb _ wd_99)
  have lk1_ := hts _ (hsb _ wd_98)
  have hl := lv_entry ([.ref aL, .int p1]) (n := 2) (Nat.le_of_ble_eq_true rfl)
  rw [lg_entry_eq]
  generalize (lg_sl ([.ref aL, .int p1]) ++ List.replicate (2 - (lg_sl ([.ref aL, .int p1])).length) Slot.unset).toArray = ls at hl ⊢
  have hl : lv_has ls 2 [(0, .ref aL), (1, .int p1)] := hl
  refine lv_aload_n hx hb dX1_add_0 rfl (lv_at hl 0 rfl) ?_
  refine kk_get (ci := 1) (v := .int L_count) (C := RX1) (T := TX1) (N := 5) hx hb hts iX1 hown hK hq 0 rfl rfl 1 (by decide) lk0_ rfl dX1_add_1 ?_
  refine lv_bipush (v := 60) hx hb dX1_add_4 (by decide) ?_
  refine kk_join2 (fun (count_2 : Int32) (gP_3 : Nat → Int32) (H : Heap) (locs : List Loc) (ls : Array Slot) => count_2 = (if 60 ≤ L_count then L_count else L_count + 1) ∧ gP_3 = (if 60 ≤ L_count then fP else upd fP L_count.toNatClampNeg p1) ∧ lv_has ls 2 [(0, .ref aL), (1, .int p1)] ∧ kAt G A s [(aL, .inr (1, [.ref aP, .int count_2, .int L_fault, .ref rL_values, .int L_top])), (aP, .inl (cP, 60, .inl gP_3))] H locs) 29 (fun count_2 gP_3 => []) (fun count_2 gP_3 H locs ls hv => ?_) (fun J_4 => ?_)
  · skip
    obtain ⟨ecount_2, egP_3, hl, hq⟩ := hv
    have hf : ((count_2, gP_3) : Int32 × (Nat → Int32)) = fX1_add p1 L_count fP := by
      exact ((congrArg (fun (count_2 : Int32) => ((let gP_3 : Nat → Int32 := if 60 ≤ L_count then fP else upd fP L_count.toNatClampNeg p1
  (count_2, gP_3)) : Int32 × (Nat → Int32))) ecount_2.symm).trans ((congrArg (fun (gP_3 : Nat → Int32) => (((count_2, gP_3)) : Int32 × (Nat → Int32))) egP_3.symm))).symm
    have en_0 : 0 ≤ count_2.toInt := by subst_vars; split; (· omega); (· rename_i h; have := kk_nle (k := 60) rfl h; have := kk_inc (x := L_count) (by omega); omega)
    have en_1 : count_2.toInt ≤ 60 := by subst_vars; split; (· omega); (· rename_i h; have := kk_nle (k := 60) rfl h; have := kk_inc (x := L_count) (by omega); omega)
    exact kk_ev hx hb hr hlocks hK hq [0, 1] (count_2, gP_3) rfl (by decide) dX1_add_29 ⟨hf, en_0, en_1⟩
  · skip
    refine lv_icmp_ge (tgt := 29) hx hb dX1_add_6 (by decide) (fun c_1 => ?_) (fun c_1 => ?_)
    · skip
      exact J_4 L_count fP _ _ _ ⟨(if_pos c_1).symm, (if_pos c_1).symm, lv_sub hl [0, 1] rfl, hq⟩
    · skip
      have h60 := kk_nle (k := 60) rfl c_1
      refine lv_aload_n hx hb dX1_add_9 rfl (lv_at hl 0 rfl) ?_
      refine kk_get (ci := 1) (v := .ref aP) (C := RX1) (T := TX1) (N := 5) hx hb hts iX1 hown hK hq 0 rfl rfl 0 (by decide) lk1_ rfl dX1_add_10 ?_
      refine lv_aload_n hx hb dX1_add_13 rfl (lv_at hl 0 rfl) ?_
      refine kk_get (ci := 1) (v := .int L_count) (C := RX1) (T := TX1) (N := 5) hx hb hts iX1 hown hK hq 0 rfl rfl 1 (by decide) lk0_ rfl dX1_add_14 ?_
      refine lv_iload_n hx hb dX1_add_17 rfl (lv_at hl 1 rfl) ?_
      refine kk_iast (ws' := [(aL, .inr (1, [.ref aP, .int L_count, .int L_fault, .ref rL_values, .int L_top])), (aP, .inl (cP, 60, .inl (upd fP L_count.toNatClampNeg p1)))]) hx hb hK hq 1 0 rfl rfl L_count.toNatClampNeg (kk_cl k0) (kk_clt k0 h60) (by decide) dX1_add_18 rfl (fun H locs hq => ?_)
      refine lv_aload_n hx hb dX1_add_19 rfl (lv_at hl 0 rfl) ?_
      refine lv_dup hx hb dX1_add_20 rfl ?_
      refine kk_get (ci := 1) (v := .int L_count) (C := RX1) (T := TX1) (N := 5) hx hb hts iX1 hown hK hq 0 rfl rfl 1 (by decide) lk0_ rfl dX1_add_21 ?_
      refine lv_iconst (v := 1) hx hb dX1_add_24 (by decide) ?_
      refine lv_iadd hx hb dX1_add_25 ?_
      refine kk_put (ws' := [(aL, .inr (1, [.ref aP, .int (L_count + 1), .int L_fault, .ref rL_values, .int L_top])), (aP, .inl (cP, 60, .inl (upd fP L_count.toNatClampNeg p1)))]) (ci := 1) (v := .int (L_count + 1)) (C := RX1) (T := TX1) (N := 5) hx hb hts iX1 tyX1_ok nmX1 hown hK hq 0 rfl rfl 1 (by decide) lk0_ rfl rfl rfl (Nat.le_of_ble_eq_true rfl) dX1_add_26 rfl (fun H locs hq => ?_)
      exact J_4 (L_count + 1) (upd fP L_count.toNatClampNeg p1) _ _ _ ⟨(if_neg c_1).symm, (if_neg c_1).symm, lv_sub hl [0, 1] rfl, hq⟩
theorem hd_X1_add : yX1_add.cls = RX1 ∧ yX1_add.cls ≠ "java/lang/invoke/MethodHandle" ∧ yX1_add.cls ≠ "java/lang/invoke/VarHandle" ∧ (parseMethodDescriptor yX1_add.desc).map (fun d => d.parameters.length) = some 1 := by decide +kernel
def fX1_addNumber (p1 : Int32) (L_count : Int32) (fP : Nat → Int32) : Int32 × (Nat → Int32) :=
  let u_1 : Int32 × (Nat → Int32) := fX1_add p1 L_count fP
  (u_1.1, u_1.2)

set_option maxHeartbeats 4000000 in
set_option maxRecDepth 100000 in
theorem c_X1_addNumber (l : Launch) (G : va_G) (aL aP rL_values : Nat) (cP : ClassId) (p1 : Int32) (L_count : Int32) (L_fault : Int32) (L_top : Int32) (fP : Nat → Int32) (k0 : 0 ≤ L_count.toInt) (k1 : L_count.toInt ≤ 60) : kCv l yX1_addNumber (Cond.code yX1_addNumber cX1_addNumber 2 none :: wsL_law) ({ frames := 1, cells := 0, slots := 0, locals := 21 }) G [(cP, .int)] [.ref aL, .int p1] [(aL, .inr (1, [.ref aP, .int L_count, .int L_fault, .ref rL_values, .int L_top])), (aP, .inl (cP, 60, .inl fP))] (fun (u : Int32 × (Nat → Int32)) => u = fX1_addNumber p1 L_count fP ∧ (0 ≤ u.1.toInt) ∧ (u.1.toInt ≤ 60)) (fun (u : Int32 × (Nat → Int32)) => [(aL, .inr (1, [.ref aP, .int u.1, .int L_fault, .ref rL_values, .int L_top])), (aP, .inl (cP, 60, .inl u.2))]) := by
  intro sz
  refine Met.ofW (cc := cX1_addNumber) (maxL := 2) (ret := none) (by decide) rfl ?_
  intro p e s m args below meth c s₁ B hml hv
  obtain ⟨rfl, hv⟩ := hv
  obtain ⟨rfl, hK, hq, hA⟩ := kk_begin hv
  have hx := B.exec
  have hb := B.bytes
  have hr := B.returns
  have hts := atoms_spec (ws := (Cond.code yX1_addNumber cX1_addNumber 2 none :: wsL_law)) B.pre
  have hown : s.vm.findClass RX1 = some m.cls := findClass_of_methodNamed B.named
  have hlocks := B.notSynchronized
  have hsb : ∀ w ∈ wsL_law, w ∈ (Cond.code yX1_addNumber cX1_addNumber 2 none :: wsL_law) := fun _ h => List.mem_cons_of_mem _ h
  generalize va_A [(aL, .inr (1, [.ref aP, .int L_count, .int L_fault, .ref rL_values, .int L_top])), (aP, .inl (cP, 60, .inl fP))] s.heap.size = A at hq hA ⊢
  have hl := lv_entry ([.ref aL, .int p1]) (n := 2) (Nat.le_of_ble_eq_true rfl)
  rw [lg_entry_eq]
  generalize (lg_sl ([.ref aL, .int p1]) ++ List.replicate (2 - (lg_sl ([.ref aL, .int p1])).length) Slot.unset).toArray = ls at hl ⊢
  have hl : lv_has ls 2 [(0, .ref aL), (1, .int p1)] := hl
  refine lv_aload_n hx hb dX1_addNumber_0 rfl (lv_at hl 0 rfl) ?_
  refine lv_iload_n hx hb dX1_addNumber_1 rfl (lv_at hl 1 rfl) ?_
  refine kk_Vv (As := [.int p1]) (rest := []) (wr := []) ⟨hx, hb, hml, hown, hts⟩ (c_X1_add l G aL aP rL_values cP p1 L_count L_fault L_top fP (by assumption) (by assumption)) (kk_cwV 1 hts hsb wd_209 wd_210 wd_211 wd_21 wd_212 rfl rfl hd_X1_add ⟨Nat.le_of_ble_eq_true rfl, Nat.le_of_ble_eq_true rfl⟩) hA hK hq [0, 1] [] [0] rfl rfl rfl (by decide) (by decide) (by decide) 0 1 rfl rfl rfl rfl hl.1 rfl (Nat.le_of_ble_eq_true rfl) dX1_addNumber_2 ⟨Nat.zero_le _, Nat.zero_le _⟩ (fun u_1 H locs h_3 hq => ?_)
  obtain ⟨eu_1, k0_u_1, k1_u_1⟩ := h_3
  have hq : kAt G A s [(aL, .inr (1, [.ref aP, .int u_1.1, .int L_fault, .ref rL_values, .int L_top])), (aP, .inl (cP, 60, .inl u_1.2))] H locs := hq
  have hf : ((u_1.1, u_1.2) : Int32 × (Nat → Int32)) = fX1_addNumber p1 L_count fP := by
    exact ((congrArg (fun (u_1 : Int32 × (Nat → Int32)) => (((u_1.1, u_1.2)) : Int32 × (Nat → Int32))) eu_1.symm)).symm
  have en_0 : 0 ≤ u_1.1.toInt := by first | assumption | omega
  have en_1 : u_1.1.toInt ≤ 60 := by first | assumption | omega
  exact kk_ev hx hb hr hlocks hK hq [0, 1] (u_1.1, u_1.2) rfl (by decide) dX1_addNumber_5 ⟨hf, en_0, en_1⟩
def fX1_addSign (p1 : Int32) (L_count : Int32) (fP : Nat → Int32) : Int32 × (Nat → Int32) :=
  let u_1 : Int32 × (Nat → Int32) := fX1_add (-p1) L_count fP
  (u_1.1, u_1.2)

set_option maxHeartbeats 4000000 in
set_option maxRecDepth 100000 in
theorem c_X1_addSign (l : Launch) (G : va_G) (aL aP rL_values : Nat) (cP : ClassId) (p1 : Int32) (L_count : Int32) (L_fault : Int32) (L_top : Int32) (fP : Nat → Int32) (k0 : 0 ≤ L_count.toInt) (k1 : L_count.toInt ≤ 60) : kCv l yX1_addSign (Cond.code yX1_addSign cX1_addSign 2 none :: wsL_law) ({ frames := 1, cells := 0, slots := 0, locals := 21 }) G [(cP, .int)] [.ref aL, .int p1] [(aL, .inr (1, [.ref aP, .int L_count, .int L_fault, .ref rL_values, .int L_top])), (aP, .inl (cP, 60, .inl fP))] (fun (u : Int32 × (Nat → Int32)) => u = fX1_addSign p1 L_count fP ∧ (0 ≤ u.1.toInt) ∧ (u.1.toInt ≤ 60)) (fun (u : Int32 × (Nat → Int32)) => [(aL, .inr (1, [.ref aP, .int u.1, .int L_fault, .ref rL_values, .int L_top])), (aP, .inl (cP, 60, .inl u.2))]) := by
  intro sz
  refine Met.ofW (cc := cX1_addSign) (maxL := 2) (ret := none) (by decide) rfl ?_
  intro p e s m args below meth c s₁ B hml hv
  obtain ⟨rfl, hv⟩ := hv
  obtain ⟨rfl, hK, hq, hA⟩ := kk_begin hv
  have hx := B.exec
  have hb := B.bytes
  have hr := B.returns
  have hts := atoms_spec (ws := (Cond.code yX1_addSign cX1_addSign 2 none :: wsL_law)) B.pre
  have hown : s.vm.findClass RX1 = some m.cls := findClass_of_methodNamed B.named
  have hlocks := B.notSynchronized
  have hsb : ∀ w ∈ wsL_law, w ∈ (Cond.code yX1_addSign cX1_addSign 2 none :: wsL_law) := fun _ h => List.mem_cons_of_mem _ h
  generalize va_A [(aL, .inr (1, [.ref aP, .int L_count, .int L_fault, .ref rL_values, .int L_top])), (aP, .inl (cP, 60, .inl fP))] s.heap.size = A at hq hA ⊢
  have hl := lv_entry ([.ref aL, .int p1]) (n := 2) (Nat.le_of_ble_eq_true rfl)
  rw [lg_entry_eq]
  generalize (lg_sl ([.ref aL, .int p1]) ++ List.replicate (2 - (lg_sl ([.ref aL, .int p1])).length) Slot.unset).toArray = ls at hl ⊢
  have hl : lv_has ls 2 [(0, .ref aL), (1, .int p1)] := hl
  refine lv_aload_n hx hb dX1_addSign_0 rfl (lv_at hl 0 rfl) ?_
  refine lv_iload_n hx hb dX1_addSign_1 rfl (lv_at hl 1 rfl) ?_
  refine lv_ineg hx hb dX1_addSign_2 ?_
  refine kk_Vv (As := [.int (-p1)]) (rest := []) (wr := []) ⟨hx, hb, hml, hown, hts⟩ (c_X1_add l G aL aP rL_values cP (-p1) L_count L_fault L_top fP (by assumption) (by assumption)) (kk_cwV 1 hts hsb wd_209 wd_210 wd_211 wd_21 wd_212 rfl rfl hd_X1_add ⟨Nat.le_of_ble_eq_true rfl, Nat.le_of_ble_eq_true rfl⟩) hA hK hq [0, 1] [] [0] rfl rfl rfl (by decide) (by decide) (by decide) 0 1 rfl rfl rfl rfl hl.1 rfl (Nat.le_of_ble_eq_true rfl) dX1_addSign_3 ⟨Nat.zero_le _, Nat.zero_le _⟩ (fun u_1 H locs h_3 hq => ?_)
  obtain ⟨eu_1, k0_u_1, k1_u_1⟩ := h_3
  have hq : kAt G A s [(aL, .inr (1, [.ref aP, .int u_1.1, .int L_fault, .ref rL_values, .int L_top])), (aP, .inl (cP, 60, .inl u_1.2))] H locs := hq
  have hf : ((u_1.1, u_1.2) : Int32 × (Nat → Int32)) = fX1_addSign p1 L_count fP := by
    exact ((congrArg (fun (u_1 : Int32 × (Nat → Int32)) => (((u_1.1, u_1.2)) : Int32 × (Nat → Int32))) eu_1.symm)).symm
  have en_0 : 0 ≤ u_1.1.toInt := by first | assumption | omega
  have en_1 : u_1.1.toInt ≤ 60 := by first | assumption | omega
  exact kk_ev hx hb hr hlocks hK hq [0, 1] (u_1.1, u_1.2) rfl (by decide) dX1_addSign_6 ⟨hf, en_0, en_1⟩
def fX1_lay (p1 : Int64) (L_top : Int32) (fV : Nat → Int64) : Int32 × (Nat → Int64) :=
  let top_2 : Int32 := if 60 ≤ L_top then L_top else L_top + 1
  let gV_3 : Nat → Int64 := if 60 ≤ L_top then fV else vp_updL fV L_top.toNatClampNeg p1
  (top_2, gV_3)

set_option maxHeartbeats 4000000 in
set_option maxRecDepth 100000 in
theorem c_X1_lay (l : Launch) (G : va_G) (aL aV rL_parts : Nat) (cV : ClassId) (p1 : Int64) (L_count : Int32) (L_fault : Int32) (L_top : Int32) (fV : Nat → Int64) (h0 : 0 ≤ L_top.toInt) : kCv l yX1_lay (Cond.code yX1_lay cX1_lay 3 none :: wsL_law) ({ frames := 0, cells := 0, slots := 0, locals := 0 }) G [(cV, .long)] [.ref aL, .long p1] [(aL, .inr (1, [.ref rL_parts, .int L_count, .int L_fault, .ref aV, .int L_top])), (aV, .inl (cV, 60, .inr (.inl fV)))] (fun (u : Int32 × (Nat → Int64)) => u = fX1_lay p1 L_top fV) (fun (u : Int32 × (Nat → Int64)) => [(aL, .inr (1, [.ref rL_parts, .int L_count, .int L_fault, .ref aV, .int u.1])), (aV, .inl (cV, 60, .inr (.inl u.2)))]) := by
  intro sz
  refine Met.ofW (cc := cX1_lay) (maxL := 3) (ret := none) (by decide) rfl ?_
  intro p e s m args below meth c s₁ B hml hv
  obtain ⟨rfl, hv⟩ := hv
  obtain ⟨rfl, hK, hq, hA⟩ := kk_begin hv
  have hx := B.exec
  have hb := B.bytes
  have hr := B.returns
  have hts := atoms_spec (ws := (Cond.code yX1_lay cX1_lay 3 none :: wsL_law)) B.pre
  have hown : s.vm.findClass RX1 = some m.cls := findClass_of_methodNamed B.named
  have hlocks := B.notSynchronized
  have hsb : ∀ w ∈ wsL_law, w ∈ (Cond.code yX1_lay cX1_lay 3 none :: wsL_law) := fun _ h => List.mem_cons_of_mem _ h
  generalize va_A [(aL, .inr (1, [.ref rL_parts, .int L_count, .int L_fault, .ref aV, .int L_top])), (aV, .inl (cV, 60, .inr (.inl fV)))] s.heap.size = A at hq hA ⊢
  have iX1 : ∀ w ∈ u_ws RX1 TX1 5, w ∈ (Cond.code yX1_lay cX1_lay 3 none :: wsL_law) := fun w h => hsb w (bin_X1 w h)
  have lk0_ := hts _ (hsb _ wd_103)
  have lk1_ := hts _ (hsb _ wd_102)
  have hl := lv_entry ([.ref aL, .long p1]) (n := 3) (Nat.le_of_ble_eq_true rfl)
  rw [lg_entry_eq]
  generalize (lg_sl ([.ref aL, .long p1]) ++ List.replicate (3 - (lg_sl ([.ref aL, .long p1])).length) Slot.unset).toArray = ls at hl ⊢
  have hl : lv_has ls 3 [(0, .ref aL), (1, .long p1)] := hl
  refine lv_aload_n hx hb dX1_lay_0 rfl (lv_at hl 0 rfl) ?_
  refine kk_get (ci := 1) (v := .int L_top) (C := RX1) (T := TX1) (N := 5) hx hb hts iX1 hown hK hq 0 rfl rfl 4 (by decide) lk0_ rfl dX1_lay_1 ?_
  refine lv_bipush (v := 60) hx hb dX1_lay_4 (by decide) ?_
  refine kk_join2 (fun (top_2 : Int32) (gV_3 : Nat → Int64) (H : Heap) (locs : List Loc) (ls : Array Slot) => top_2 = (if 60 ≤ L_top then L_top else L_top + 1) ∧ gV_3 = (if 60 ≤ L_top then fV else vp_updL fV L_top.toNatClampNeg p1) ∧ lv_has ls 3 [(0, .ref aL), (1, .long p1)] ∧ kAt G A s [(aL, .inr (1, [.ref rL_parts, .int L_count, .int L_fault, .ref aV, .int top_2])), (aV, .inl (cV, 60, .inr (.inl gV_3)))] H locs) 29 (fun top_2 gV_3 => []) (fun top_2 gV_3 H locs ls hv => ?_) (fun J_4 => ?_)
  · skip
    obtain ⟨etop_2, egV_3, hl, hq⟩ := hv
    have hf : ((top_2, gV_3) : Int32 × (Nat → Int64)) = fX1_lay p1 L_top fV := by
      exact ((congrArg (fun (top_2 : Int32) => ((let gV_3 : Nat → Int64 := if 60 ≤ L_top then fV else vp_updL fV L_top.toNatClampNeg p1
  (top_2, gV_3)) : Int32 × (Nat → Int64))) etop_2.symm).trans ((congrArg (fun (gV_3 : Nat → Int64) => (((top_2, gV_3)) : Int32 × (Nat → Int64))) egV_3.symm))).symm
    exact kk_ev hx hb hr hlocks hK hq [0, 1] (top_2, gV_3) rfl (by decide) dX1_lay_29 hf
  · skip
    refine lv_icmp_ge (tgt := 29) hx hb dX1_lay_6 (by decide) (fun c_1 => ?_) (fun c_1 => ?_)
    · skip
      exact J_4 L_top fV _ _ _ ⟨(if_pos c_1).symm, (if_pos c_1).symm, lv_sub hl [0, 1] rfl, hq⟩
    · skip
      have h60 := kk_nle (k := 60) rfl c_1
      refine lv_aload_n hx hb dX1_lay_9 rfl (lv_at hl 0 rfl) ?_
      refine kk_get (ci := 1) (v := .ref aV) (C := RX1) (T := TX1) (N := 5) hx hb hts iX1 hown hK hq 0 rfl rfl 3 (by decide) lk1_ rfl dX1_lay_10 ?_
      refine lv_aload_n hx hb dX1_lay_13 rfl (lv_at hl 0 rfl) ?_
      refine kk_get (ci := 1) (v := .int L_top) (C := RX1) (T := TX1) (N := 5) hx hb hts iX1 hown hK hq 0 rfl rfl 4 (by decide) lk0_ rfl dX1_lay_14 ?_
      refine lv_lload_n hx hb dX1_lay_17 rfl (lv_at hl 1 rfl) ?_
      refine kk_last (ws' := [(aL, .inr (1, [.ref rL_parts, .int L_count, .int L_fault, .ref aV, .int L_top])), (aV, .inl (cV, 60, .inr (.inl (vp_updL fV L_top.toNatClampNeg p1))))]) hx hb hK hq 1 0 rfl rfl L_top.toNatClampNeg (kk_cl h0) (kk_clt h0 h60) (by decide) dX1_lay_18 rfl (fun H locs hq => ?_)
      refine lv_aload_n hx hb dX1_lay_19 rfl (lv_at hl 0 rfl) ?_
      refine lv_dup hx hb dX1_lay_20 rfl ?_
      refine kk_get (ci := 1) (v := .int L_top) (C := RX1) (T := TX1) (N := 5) hx hb hts iX1 hown hK hq 0 rfl rfl 4 (by decide) lk0_ rfl dX1_lay_21 ?_
      refine lv_iconst (v := 1) hx hb dX1_lay_24 (by decide) ?_
      refine lv_iadd hx hb dX1_lay_25 ?_
      refine kk_put (ws' := [(aL, .inr (1, [.ref rL_parts, .int L_count, .int L_fault, .ref aV, .int (L_top + 1)])), (aV, .inl (cV, 60, .inr (.inl (vp_updL fV L_top.toNatClampNeg p1))))]) (ci := 1) (v := .int (L_top + 1)) (C := RX1) (T := TX1) (N := 5) hx hb hts iX1 tyX1_ok nmX1 hown hK hq 0 rfl rfl 4 (by decide) lk0_ rfl rfl rfl (Nat.le_of_ble_eq_true rfl) dX1_lay_26 rfl (fun H locs hq => ?_)
      exact J_4 (L_top + 1) (vp_updL fV L_top.toNatClampNeg p1) _ _ _ ⟨(if_neg c_1).symm, (if_neg c_1).symm, lv_sub hl [0, 1] rfl, hq⟩
def fX1_take (L_top : Int32) (fV : Nat → Int64) : Int64 × Int32 :=
  if 0 < L_top then (
    (fV ((L_top - 1).toNatClampNeg), L_top - 1))
  else (
    (0, L_top))

set_option maxHeartbeats 4000000 in
set_option maxRecDepth 100000 in
theorem c_X1_take (l : Launch) (G : va_G) (aL aV rL_parts : Nat) (cV : ClassId) (L_count : Int32) (L_fault : Int32) (L_top : Int32) (fV : Nat → Int64) (h1 : L_top.toInt ≤ 60) : kCl l yX1_take (Cond.code yX1_take cX1_take 1 (some .long) :: wsL_law) ({ frames := 0, cells := 0, slots := 0, locals := 0 }) G [(cV, .long)] [.ref aL] [(aL, .inr (1, [.ref rL_parts, .int L_count, .int L_fault, .ref aV, .int L_top])), (aV, .inl (cV, 60, .inr (.inl fV)))] (fun (r : Int64) (u : Int32) => r = (fX1_take L_top fV).1 ∧ u = (fX1_take L_top fV).2) (fun (u : Int32) => [(aL, .inr (1, [.ref rL_parts, .int L_count, .int L_fault, .ref aV, .int u])), (aV, .inl (cV, 60, .inr (.inl fV)))]) := by
  intro sz
  refine Met.ofW (cc := cX1_take) (maxL := 1) (ret := (some .long)) (by decide) rfl ?_
  intro p e s m args below meth c s₁ B hml hv
  obtain ⟨rfl, hv⟩ := hv
  obtain ⟨rfl, hK, hq, hA⟩ := kk_begin hv
  have hx := B.exec
  have hb := B.bytes
  have hr := B.returns
  have hts := atoms_spec (ws := (Cond.code yX1_take cX1_take 1 (some .long) :: wsL_law)) B.pre
  have hown : s.vm.findClass RX1 = some m.cls := findClass_of_methodNamed B.named
  have hlocks := B.notSynchronized
  have hsb : ∀ w ∈ wsL_law, w ∈ (Cond.code yX1_take cX1_take 1 (some .long) :: wsL_law) := fun _ h => List.mem_cons_of_mem _ h
  generalize va_A [(aL, .inr (1, [.ref rL_parts, .int L_count, .int L_fault, .ref aV, .int L_top])), (aV, .inl (cV, 60, .inr (.inl fV)))] s.heap.size = A at hq hA ⊢
  have iX1 : ∀ w ∈ u_ws RX1 TX1 5, w ∈ (Cond.code yX1_take cX1_take 1 (some .long) :: wsL_law) := fun w h => hsb w (bin_X1 w h)
  have lk0_ := hts _ (hsb _ wd_103)
  have lk1_ := hts _ (hsb _ wd_102)
  have hl := lv_entry ([.ref aL]) (n := 1) (Nat.le_of_ble_eq_true rfl)
  rw [lg_entry_eq]
  generalize (lg_sl ([.ref aL]) ++ List.replicate (1 - (lg_sl ([.ref aL])).length) Slot.unset).toArray = ls at hl ⊢
  have hl : lv_has ls 1 [(0, .ref aL)] := hl
  refine lv_aload_n hx hb dX1_take_0 rfl (lv_at hl 0 rfl) ?_
  refine kk_get (ci := 1) (v := .int L_top) (C := RX1) (T := TX1) (N := 5) hx hb hts iX1 hown hK hq 0 rfl rfl 4 (by decide) lk0_ rfl dX1_take_1 ?_
  refine lv_if_gt (tgt := 9) hx hb dX1_take_4 (by decide) (fun c_1 => ?_) (fun c_1 => ?_)
  · skip
    have hbb : 0 ≤ (L_top - 1).toInt ∧ (L_top - 1).toInt < (60 : Nat) := by have h := kk_gt (k := 0) rfl c_1; have := kk_dec (x := L_top) (by omega); omega
    refine lv_aload_n hx hb dX1_take_9 rfl (lv_at hl 0 rfl) ?_
    refine lv_dup hx hb dX1_take_10 rfl ?_
    refine kk_get (ci := 1) (v := .int L_top) (C := RX1) (T := TX1) (N := 5) hx hb hts iX1 hown hK hq 0 rfl rfl 4 (by decide) lk0_ rfl dX1_take_11 ?_
    refine lv_iconst (v := 1) hx hb dX1_take_14 (by decide) ?_
    refine lv_isub hx hb dX1_take_15 ?_
    refine kk_put (ws' := [(aL, .inr (1, [.ref rL_parts, .int L_count, .int L_fault, .ref aV, .int (L_top - 1)])), (aV, .inl (cV, 60, .inr (.inl fV)))]) (ci := 1) (v := .int (L_top - 1)) (C := RX1) (T := TX1) (N := 5) hx hb hts iX1 tyX1_ok nmX1 hown hK hq 0 rfl rfl 4 (by decide) lk0_ rfl rfl rfl (Nat.le_of_ble_eq_true rfl) dX1_take_16 rfl (fun H locs hq => ?_)
    refine lv_aload_n hx hb dX1_take_19 rfl (lv_at hl 0 rfl) ?_
    refine kk_get (ci := 1) (v := .ref aV) (C := RX1) (T := TX1) (N := 5) hx hb hts iX1 hown hK hq 0 rfl rfl 3 (by decide) lk1_ rfl dX1_take_20 ?_
    refine lv_aload_n hx hb dX1_take_23 rfl (lv_at hl 0 rfl) ?_
    refine kk_get (ci := 1) (v := .int (L_top - 1)) (C := RX1) (T := TX1) (N := 5) hx hb hts iX1 hown hK hq 0 rfl rfl 4 (by decide) lk0_ rfl dX1_take_24 ?_
    refine kk_lald hx hb hK hq 1 0 rfl rfl ((L_top - 1).toNatClampNeg) (kk_cl hbb.1) (kk_clt hbb.1 hbb.2) (by decide) dX1_take_27 ?_
    have hf : ((fV ((L_top - 1).toNatClampNeg), L_top - 1) : Int64 × Int32) = fX1_take L_top fV := by
      exact ((if_pos c_1)).symm
    exact kk_el hx hb hr hlocks hK hq [0, 1] (L_top - 1) rfl (by decide) dX1_take_28 ⟨congrArg Prod.fst hf, congrArg Prod.snd hf⟩
  · skip
    refine lv_lconst (v := 0) hx hb dX1_take_7 (by decide) ?_
    have hf : ((0, L_top) : Int64 × Int32) = fX1_take L_top fV := by
      exact ((if_neg c_1)).symm
    exact kk_el hx hb hr hlocks hK hq [0, 1] L_top rfl (by decide) dX1_take_8 ⟨congrArg Prod.fst hf, congrArg Prod.snd hf⟩
theorem lay_top {v : Int64} {t : Int32} {vf : Nat → Int64} (h0 : 0 ≤ t.toInt) (h1 : t.toInt ≤ 60) : 0 ≤ (fX1_lay v t vf).1.toInt ∧ (fX1_lay v t vf).1.toInt ≤ 60 := by
  unfold fX1_lay
  dsimp only
  split
  · exact ⟨h0, h1⟩
  · rename_i h
    have h2 := kk_nle (k := 60) rfl h
    have := kk_inc (x := t) (by omega)
    omega
theorem take_top {t : Int32} {vf : Nat → Int64} (h0 : 0 ≤ t.toInt) (h1 : t.toInt ≤ 60) : 0 ≤ (fX1_take t vf).2.toInt ∧ (fX1_take t vf).2.toInt ≤ 60 := by
  unfold fX1_take
  split
  · rename_i h
    have h2 := kk_gt (k := 0) rfl h
    have := kk_dec (x := t) (by omega)
    dsimp only
    omega
  · exact ⟨h0, h1⟩
def fX1_letter (p1 : Int32) (C_place : Int64) (C_speed : Int64) (C_posture : Int32) (C_since : Int32) (C_height : Int32) (C_ticks : Int32) : Int64 :=
  if p1 = 97 then (
    C_place)
  else (
    if p1 = 104 then (
      C_posture.toInt64)
    else (
      if p1 = 107 then (
        C_ticks.toInt64)
      else (
        if p1 = 116 then (
          C_since.toInt64)
        else (
          if p1 = 117 then (
            C_height.toInt64)
          else (
            if p1 = 118 then (
              C_speed)
            else (
              0))))))

set_option maxHeartbeats 4000000 in
set_option maxRecDepth 100000 in
theorem c_X1_letter (l : Launch) (G : va_G) (aC : Nat) (p1 : Int32) (C_place : Int64) (C_speed : Int64) (C_posture : Int32) (C_since : Int32) (C_height : Int32) (C_ticks : Int32) (C_way : Int32) (C_strength : Int32) (C_drops : Int32) (C_greatestDrop : Int32) (C_otherPlace : Int64) (C_otherSpeed : Int64) : kCl l yX1_letter (Cond.code yX1_letter cX1_letter 2 (some .long) :: wsL_law) ({ frames := 0, cells := 0, slots := 0, locals := 0 }) G [] [.int p1, .ref aC] [(aC, .inr (0, [.long C_place, .long C_speed, .int C_posture, .int C_since, .int C_height, .int C_ticks, .int C_way, .int C_strength, .int C_drops, .int C_greatestDrop, .long C_otherPlace, .long C_otherSpeed]))] (fun (r : Int64) (_ : Unit) => r = fX1_letter p1 C_place C_speed C_posture C_since C_height C_ticks) (fun (_ : Unit) => [(aC, .inr (0, [.long C_place, .long C_speed, .int C_posture, .int C_since, .int C_height, .int C_ticks, .int C_way, .int C_strength, .int C_drops, .int C_greatestDrop, .long C_otherPlace, .long C_otherSpeed]))]) := by
  intro sz
  refine Met.ofW (cc := cX1_letter) (maxL := 2) (ret := (some .long)) (by decide) rfl ?_
  intro p e s m args below meth c s₁ B hml hv
  obtain ⟨rfl, hv⟩ := hv
  obtain ⟨rfl, hK, hq, hA⟩ := kk_begin hv
  have hx := B.exec
  have hb := B.bytes
  have hr := B.returns
  have hts := atoms_spec (ws := (Cond.code yX1_letter cX1_letter 2 (some .long) :: wsL_law)) B.pre
  have hown : s.vm.findClass RX1 = some m.cls := findClass_of_methodNamed B.named
  have hlocks := B.notSynchronized
  have hsb : ∀ w ∈ wsL_law, w ∈ (Cond.code yX1_letter cX1_letter 2 (some .long) :: wsL_law) := fun _ h => List.mem_cons_of_mem _ h
  generalize va_A [(aC, .inr (0, [.long C_place, .long C_speed, .int C_posture, .int C_since, .int C_height, .int C_ticks, .int C_way, .int C_strength, .int C_drops, .int C_greatestDrop, .long C_otherPlace, .long C_otherSpeed]))] s.heap.size = A at hq hA ⊢
  have iX0 : ∀ w ∈ u_ws RX0 TX0 12, w ∈ (Cond.code yX1_letter cX1_letter 2 (some .long) :: wsL_law) := fun w h => hsb w (bin_X0 w h)
  have lk0_ := hts _ (hsb _ wd_443)
  have lk1_ := hts _ (hsb _ wd_420)
  have lk2_ := hts _ (hsb _ wd_447)
  have lk3_ := hts _ (hsb _ wd_445)
  have lk4_ := hts _ (hsb _ wd_446)
  have lk5_ := hts _ (hsb _ wd_444)
  have hl := lv_entry ([.int p1, .ref aC]) (n := 2) (Nat.le_of_ble_eq_true rfl)
  rw [lg_entry_eq]
  generalize (lg_sl ([.int p1, .ref aC]) ++ List.replicate (2 - (lg_sl ([.int p1, .ref aC])).length) Slot.unset).toArray = ls at hl ⊢
  have hl : lv_has ls 2 [(0, .int p1), (1, .ref aC)] := hl
  refine lv_iload_n hx hb dX1_letter_0 rfl (lv_at hl 0 rfl) ?_
  refine kk_case (c := p1 = 97) (fun c_1 => ?_) (fun c_1 => ?_)
  · skip
    refine lv_lookup (off := 59) (tgt := 60) hx hb dX1_letter_1 (by decide) (by rw [c_1]; try rfl) (by decide) ?_
    refine lv_aload_n hx hb dX1_letter_60 rfl (lv_at hl 1 rfl) ?_
    refine kk_get (ci := 0) (v := .long C_place) (C := RX0) (T := TX0) (N := 12) hx hb hts iX0 hown hK hq 0 rfl rfl 0 (by decide) lk0_ rfl dX1_letter_61 ?_
    have hf : (C_place : Int64) = fX1_letter p1 C_place C_speed C_posture C_since C_height C_ticks := by
      exact ((if_pos c_1)).symm
    exact kk_el hx hb hr hlocks hK hq [0] () rfl (by decide) dX1_letter_64 hf
  · skip
    refine kk_case (c := p1 = 104) (fun c_2 => ?_) (fun c_2 => ?_)
    · skip
      refine lv_lookup (off := 69) (tgt := 70) hx hb dX1_letter_1 (by decide) (by rw [c_2]; try rfl) (by decide) ?_
      refine lv_aload_n hx hb dX1_letter_70 rfl (lv_at hl 1 rfl) ?_
      refine kk_get (ci := 0) (v := .int C_posture) (C := RX0) (T := TX0) (N := 12) hx hb hts iX0 hown hK hq 0 rfl rfl 2 (by decide) lk1_ rfl dX1_letter_71 ?_
      refine lv_i2l hx hb dX1_letter_74 rfl ?_
      have hf : (C_posture.toInt64 : Int64) = fX1_letter p1 C_place C_speed C_posture C_since C_height C_ticks := by
        exact ((if_neg c_1).trans ((if_pos c_2))).symm
      exact kk_el hx hb hr hlocks hK hq [0] () rfl (by decide) dX1_letter_75 hf
    · skip
      refine kk_case (c := p1 = 107) (fun c_3 => ?_) (fun c_3 => ?_)
      · skip
        refine lv_lookup (off := 87) (tgt := 88) hx hb dX1_letter_1 (by decide) (by rw [c_3]; try rfl) (by decide) ?_
        refine lv_aload_n hx hb dX1_letter_88 rfl (lv_at hl 1 rfl) ?_
        refine kk_get (ci := 0) (v := .int C_ticks) (C := RX0) (T := TX0) (N := 12) hx hb hts iX0 hown hK hq 0 rfl rfl 5 (by decide) lk2_ rfl dX1_letter_89 ?_
        refine lv_i2l hx hb dX1_letter_92 rfl ?_
        have hf : (C_ticks.toInt64 : Int64) = fX1_letter p1 C_place C_speed C_posture C_since C_height C_ticks := by
          exact ((if_neg c_1).trans ((if_neg c_2).trans ((if_pos c_3)))).symm
        exact kk_el hx hb hr hlocks hK hq [0] () rfl (by decide) dX1_letter_93 hf
      · skip
        refine kk_case (c := p1 = 116) (fun c_4 => ?_) (fun c_4 => ?_)
        · skip
          refine lv_lookup (off := 75) (tgt := 76) hx hb dX1_letter_1 (by decide) (by rw [c_4]; try rfl) (by decide) ?_
          refine lv_aload_n hx hb dX1_letter_76 rfl (lv_at hl 1 rfl) ?_
          refine kk_get (ci := 0) (v := .int C_since) (C := RX0) (T := TX0) (N := 12) hx hb hts iX0 hown hK hq 0 rfl rfl 3 (by decide) lk3_ rfl dX1_letter_77 ?_
          refine lv_i2l hx hb dX1_letter_80 rfl ?_
          have hf : (C_since.toInt64 : Int64) = fX1_letter p1 C_place C_speed C_posture C_since C_height C_ticks := by
            exact ((if_neg c_1).trans ((if_neg c_2).trans ((if_neg c_3).trans ((if_pos c_4))))).symm
          exact kk_el hx hb hr hlocks hK hq [0] () rfl (by decide) dX1_letter_81 hf
        · skip
          refine kk_case (c := p1 = 117) (fun c_5 => ?_) (fun c_5 => ?_)
          · skip
            refine lv_lookup (off := 81) (tgt := 82) hx hb dX1_letter_1 (by decide) (by rw [c_5]; try rfl) (by decide) ?_
            refine lv_aload_n hx hb dX1_letter_82 rfl (lv_at hl 1 rfl) ?_
            refine kk_get (ci := 0) (v := .int C_height) (C := RX0) (T := TX0) (N := 12) hx hb hts iX0 hown hK hq 0 rfl rfl 4 (by decide) lk4_ rfl dX1_letter_83 ?_
            refine lv_i2l hx hb dX1_letter_86 rfl ?_
            have hf : (C_height.toInt64 : Int64) = fX1_letter p1 C_place C_speed C_posture C_since C_height C_ticks := by
              exact ((if_neg c_1).trans ((if_neg c_2).trans ((if_neg c_3).trans ((if_neg c_4).trans ((if_pos c_5)))))).symm
            exact kk_el hx hb hr hlocks hK hq [0] () rfl (by decide) dX1_letter_87 hf
          · skip
            refine kk_case (c := p1 = 118) (fun c_6 => ?_) (fun c_6 => ?_)
            · skip
              refine lv_lookup (off := 64) (tgt := 65) hx hb dX1_letter_1 (by decide) (by rw [c_6]; try rfl) (by decide) ?_
              refine lv_aload_n hx hb dX1_letter_65 rfl (lv_at hl 1 rfl) ?_
              refine kk_get (ci := 0) (v := .long C_speed) (C := RX0) (T := TX0) (N := 12) hx hb hts iX0 hown hK hq 0 rfl rfl 1 (by decide) lk5_ rfl dX1_letter_66 ?_
              have hf : (C_speed : Int64) = fX1_letter p1 C_place C_speed C_posture C_since C_height C_ticks := by
                exact ((if_neg c_1).trans ((if_neg c_2).trans ((if_neg c_3).trans ((if_neg c_4).trans ((if_neg c_5).trans ((if_pos c_6))))))).symm
              exact kk_el hx hb hr hlocks hK hq [0] () rfl (by decide) dX1_letter_69 hf
            · skip
              refine lv_lookup (off := 93) (tgt := 94) hx hb dX1_letter_1 (by decide) (kk_lk (kk_ne (k := 97) c_1 (by decide)) (kk_lk (kk_ne (k := 104) c_2 (by decide)) (kk_lk (kk_ne (k := 107) c_3 (by decide)) (kk_lk (kk_ne (k := 116) c_4 (by decide)) (kk_lk (kk_ne (k := 117) c_5 (by decide)) (kk_lk (kk_ne (k := 118) c_6 (by decide)) rfl)))))) (by decide) ?_
              refine lv_lconst (v := 0) hx hb dX1_letter_94 (by decide) ?_
              have hf : (0 : Int64) = fX1_letter p1 C_place C_speed C_posture C_since C_height C_ticks := by
                exact ((if_neg c_1).trans ((if_neg c_2).trans ((if_neg c_3).trans ((if_neg c_4).trans ((if_neg c_5).trans ((if_neg c_6))))))).symm
              exact kk_el hx hb hr hlocks hK hq [0] () rfl (by decide) dX1_letter_95 hf
theorem hd_X1_truth : yX1_truth.cls ≠ "java/lang/invoke/MethodHandle" ∧ yX1_truth.cls ≠ "java/lang/invoke/VarHandle" ∧ (parseMethodDescriptor yX1_truth.desc).map (fun d => d.parameters.length) = some 1 := by decide +kernel
def fX1_joined (p1 : Int64) (p2 : Int32) (p3 : Int64) : Int64 :=
  if p2 = 38 then (
    let z0_3 : Int32 := if p1 = 0 then 0 else if p3 = 0 then 0 else 1
    let r_6 : Int64 := fX1_truth z0_3
    r_6)
  else (
    if p2 = 42 then (
      p1 * p3)
    else (
      if p2 = 43 then (
        p1 + p3)
      else (
        if p2 = 45 then (
          p1 - p3)
        else (
          if p2 = 47 then (
            let z0_14 : Int64 := if p3 = 0 then 0 else p1 / p3
            z0_14)
          else (
            if p2 = 60 then (
              let z0_18 : Int32 := if p1 < p3 then 1 else 0
              let r_21 : Int64 := fX1_truth z0_18
              r_21)
            else (
              if p2 = 61 then (
                let z0_25 : Int32 := if p1 = p3 then 1 else 0
                let r_28 : Int64 := fX1_truth z0_25
                r_28)
              else (
                if p2 = 62 then (
                  let z0_32 : Int32 := if p3 < p1 then 1 else 0
                  let r_35 : Int64 := fX1_truth z0_32
                  r_35)
                else (
                  if p2 = 124 then (
                    let z0_39 : Int32 := if p1 = 0 then if p3 = 0 then 0 else 1 else 1
                    let r_42 : Int64 := fX1_truth z0_39
                    r_42)
                  else (
                    0)))))))))

set_option maxHeartbeats 4000000 in
set_option maxRecDepth 100000 in
theorem c_X1_joined (l : Launch) (G : va_G) (p1 : Int64) (p2 : Int32) (p3 : Int64) : kCl l yX1_joined (Cond.code yX1_joined cX1_joined 5 (some .long) :: wsL_law) ({ frames := 1, cells := 0, slots := 0, locals := 20 }) G [] [.long p1, .int p2, .long p3] [] (fun (r : Int64) (_ : Unit) => r = fX1_joined p1 p2 p3) (fun (_ : Unit) => []) := by
  intro sz
  refine Met.ofW (cc := cX1_joined) (maxL := 5) (ret := (some .long)) (by decide) rfl ?_
  intro p e s m args below meth c s₁ B hml hv
  obtain ⟨rfl, hv⟩ := hv
  obtain ⟨rfl, hK, hq, hA⟩ := kk_begin hv
  have hx := B.exec
  have hb := B.bytes
  have hr := B.returns
  have hts := atoms_spec (ws := (Cond.code yX1_joined cX1_joined 5 (some .long) :: wsL_law)) B.pre
  have hown : s.vm.findClass RX1 = some m.cls := findClass_of_methodNamed B.named
  have hlocks := B.notSynchronized
  have hsb : ∀ w ∈ wsL_law, w ∈ (Cond.code yX1_joined cX1_joined 5 (some .long) :: wsL_law) := fun _ h => List.mem_cons_of_mem _ h
  generalize va_A [] s.heap.size = A at hq hA ⊢
  have hl := lv_entry ([.long p1, .int p2, .long p3]) (n := 5) (Nat.le_of_ble_eq_true rfl)
  rw [lg_entry_eq]
  generalize (lg_sl ([.long p1, .int p2, .long p3]) ++ List.replicate (5 - (lg_sl ([.long p1, .int p2, .long p3])).length) Slot.unset).toArray = ls at hl ⊢
  have hl : lv_has ls 5 [(0, .long p1), (2, .int p2), (3, .long p3)] := hl
  refine lv_iload_n hx hb dX1_joined_0 rfl (lv_at hl 1 rfl) ?_
  refine kk_case (c := p2 = 38) (fun c_1 => ?_) (fun c_1 => ?_)
  · skip
    refine lv_lookup (off := 104) (tgt := 105) hx hb dX1_joined_1 (by decide) (by rw [c_1]; try rfl) (by decide) ?_
    refine lv_lload_n hx hb dX1_joined_105 rfl (lv_at hl 0 rfl) ?_
    refine lv_lconst (v := 0) hx hb dX1_joined_106 (by decide) ?_
    refine kk_join1 (fun (z0_3 : Int32) (H : Heap) (locs : List Loc) (ls : Array Slot) => z0_3 = (if p1 = 0 then 0 else if p3 = 0 then 0 else 1) ∧ lv_has ls 5 [(0, .long p1), (2, .int p2), (3, .long p3)] ∧ kAt G A s [] H locs) 122 (fun z0_3 => [.int z0_3]) (fun z0_3 H locs ls hv => ?_) (fun J_4 => ?_)
    · skip
      obtain ⟨ez0_3, hl, hq⟩ := hv
      refine kk_Sl (As := [.int z0_3]) (rest := []) (wr := []) ⟨hx, hb, hml, hown, hts⟩ (c_X1_truth l G z0_3) (kk_cwS 1 hts hsb wd_452 wd_453 wd_21 wd_454 rfl rfl hd_X1_truth ⟨Nat.le_of_ble_eq_true rfl, Nat.le_of_ble_eq_true rfl⟩) hA hK hq [] [] [] rfl rfl rfl (by decide) (by decide) (by decide) rfl hl.1 rfl (Nat.le_of_ble_eq_true rfl) dX1_joined_122 ⟨Nat.zero_le _, Nat.zero_le _⟩ (fun r_6 u_5 H locs h_7 hq => ?_)
      have er_6 := h_7
      have hq : kAt G A s [] H locs := hq
      have hf : (r_6 : Int64) = fX1_joined p1 p2 p3 := by
        exact ((if_pos c_1).trans ((congrArg (fun (z0_3 : Int32) => ((let r_6 : Int64 := fX1_truth z0_3
  r_6) : Int64)) ez0_3.symm).trans ((congrArg (fun (r_6 : Int64) => ((r_6) : Int64)) er_6.symm)))).symm
      exact kk_el hx hb hr hlocks hK hq [] () rfl (by decide) dX1_joined_125 hf
    · skip
      refine kk_lc_eq (tgt := 121) hx hb dX1_joined_107 dX1_joined_108 (by decide) (fun c_2 => ?_) (fun c_2 => ?_)
      · skip
        refine lv_iconst (v := 0) hx hb dX1_joined_121 (by decide) ?_
        exact J_4 0 _ _ _ ⟨(if_pos c_2).symm, lv_sub hl [0, 1, 2] rfl, hq⟩
      · skip
        refine lv_lload_n hx hb dX1_joined_111 rfl (lv_at hl 2 rfl) ?_
        refine lv_lconst (v := 0) hx hb dX1_joined_112 (by decide) ?_
        refine kk_lc_eq (tgt := 121) hx hb dX1_joined_113 dX1_joined_114 (by decide) (fun c_8 => ?_) (fun c_8 => ?_)
        · skip
          refine lv_iconst (v := 0) hx hb dX1_joined_121 (by decide) ?_
          exact J_4 0 _ _ _ ⟨((if_neg c_2).trans (if_pos c_8)).symm, lv_sub hl [0, 1, 2] rfl, hq⟩
        · skip
          refine lv_iconst (v := 1) hx hb dX1_joined_117 (by decide) ?_
          refine lv_goto (tgt := 122) hx hb dX1_joined_118 (by decide) ?_
          exact J_4 1 _ _ _ ⟨((if_neg c_2).trans (if_neg c_8)).symm, lv_sub hl [0, 1, 2] rfl, hq⟩
  · skip
    refine kk_case (c := p2 = 42) (fun c_9 => ?_) (fun c_9 => ?_)
    · skip
      refine lv_lookup (off := 178) (tgt := 179) hx hb dX1_joined_1 (by decide) (by rw [c_9]; try rfl) (by decide) ?_
      refine lv_lload_n hx hb dX1_joined_179 rfl (lv_at hl 0 rfl) ?_
      refine lv_lload_n hx hb dX1_joined_180 rfl (lv_at hl 2 rfl) ?_
      refine lv_lmul hx hb dX1_joined_181 ?_
      have hf : (p1 * p3 : Int64) = fX1_joined p1 p2 p3 := by
        exact ((if_neg c_1).trans ((if_pos c_9))).symm
      exact kk_el hx hb hr hlocks hK hq [] () rfl (by decide) dX1_joined_182 hf
    · skip
      refine kk_case (c := p2 = 43) (fun c_10 => ?_) (fun c_10 => ?_)
      · skip
        refine lv_lookup (off := 170) (tgt := 171) hx hb dX1_joined_1 (by decide) (by rw [c_10]; try rfl) (by decide) ?_
        refine lv_lload_n hx hb dX1_joined_171 rfl (lv_at hl 0 rfl) ?_
        refine lv_lload_n hx hb dX1_joined_172 rfl (lv_at hl 2 rfl) ?_
        refine lv_ladd hx hb dX1_joined_173 ?_
        have hf : (p1 + p3 : Int64) = fX1_joined p1 p2 p3 := by
          exact ((if_neg c_1).trans ((if_neg c_9).trans ((if_pos c_10)))).symm
        exact kk_el hx hb hr hlocks hK hq [] () rfl (by decide) dX1_joined_174 hf
      · skip
        refine kk_case (c := p2 = 45) (fun c_11 => ?_) (fun c_11 => ?_)
        · skip
          refine lv_lookup (off := 174) (tgt := 175) hx hb dX1_joined_1 (by decide) (by rw [c_11]; try rfl) (by decide) ?_
          refine lv_lload_n hx hb dX1_joined_175 rfl (lv_at hl 0 rfl) ?_
          refine lv_lload_n hx hb dX1_joined_176 rfl (lv_at hl 2 rfl) ?_
          refine lv_lsub hx hb dX1_joined_177 ?_
          have hf : (p1 - p3 : Int64) = fX1_joined p1 p2 p3 := by
            exact ((if_neg c_1).trans ((if_neg c_9).trans ((if_neg c_10).trans ((if_pos c_11))))).symm
          exact kk_el hx hb hr hlocks hK hq [] () rfl (by decide) dX1_joined_178 hf
        · skip
          refine kk_case (c := p2 = 47) (fun c_12 => ?_) (fun c_12 => ?_)
          · skip
            refine lv_lookup (off := 182) (tgt := 183) hx hb dX1_joined_1 (by decide) (by rw [c_12]; try rfl) (by decide) ?_
            refine lv_lload_n hx hb dX1_joined_183 rfl (lv_at hl 2 rfl) ?_
            refine lv_lconst (v := 0) hx hb dX1_joined_184 (by decide) ?_
            refine kk_join1 (fun (z0_14 : Int64) (H : Heap) (locs : List Loc) (ls : Array Slot) => z0_14 = (if p3 = 0 then 0 else p1 / p3) ∧ lv_has ls 5 [(0, .long p1), (2, .int p2), (3, .long p3)] ∧ kAt G A s [] H locs) 196 (fun z0_14 => [.long z0_14]) (fun z0_14 H locs ls hv => ?_) (fun J_15 => ?_)
            · skip
              obtain ⟨ez0_14, hl, hq⟩ := hv
              have hf : (z0_14 : Int64) = fX1_joined p1 p2 p3 := by
                exact ((if_neg c_1).trans ((if_neg c_9).trans ((if_neg c_10).trans ((if_neg c_11).trans ((if_pos c_12).trans ((congrArg (fun (z0_14 : Int64) => ((z0_14) : Int64)) ez0_14.symm))))))).symm
              exact kk_el hx hb hr hlocks hK hq [] () rfl (by decide) dX1_joined_196 hf
            · skip
              refine kk_lc_ne (tgt := 193) hx hb dX1_joined_185 dX1_joined_186 (by decide) (fun c_13 => ?_) (fun c_13 => ?_)
              · skip
                refine lv_lload_n hx hb dX1_joined_193 rfl (lv_at hl 0 rfl) ?_
                refine lv_lload_n hx hb dX1_joined_194 rfl (lv_at hl 2 rfl) ?_
                refine lv_ldiv hx hb dX1_joined_195 c_13 ?_
                exact J_15 (p1 / p3) _ _ _ ⟨(if_neg c_13).symm, lv_sub hl [0, 1, 2] rfl, hq⟩
              · skip
                refine lv_lconst (v := 0) hx hb dX1_joined_189 (by decide) ?_
                refine lv_goto (tgt := 196) hx hb dX1_joined_190 (by decide) ?_
                exact J_15 0 _ _ _ ⟨(if_pos c_13).symm, lv_sub hl [0, 1, 2] rfl, hq⟩
          · skip
            refine kk_case (c := p2 = 60) (fun c_16 => ?_) (fun c_16 => ?_)
            · skip
              refine lv_lookup (off := 125) (tgt := 126) hx hb dX1_joined_1 (by decide) (by rw [c_16]; try rfl) (by decide) ?_
              refine lv_lload_n hx hb dX1_joined_126 rfl (lv_at hl 0 rfl) ?_
              refine lv_lload_n hx hb dX1_joined_127 rfl (lv_at hl 2 rfl) ?_
              refine kk_join1 (fun (z0_18 : Int32) (H : Heap) (locs : List Loc) (ls : Array Slot) => z0_18 = (if p1 < p3 then 1 else 0) ∧ lv_has ls 5 [(0, .long p1), (2, .int p2), (3, .long p3)] ∧ kAt G A s [] H locs) 137 (fun z0_18 => [.int z0_18]) (fun z0_18 H locs ls hv => ?_) (fun J_19 => ?_)
              · skip
                obtain ⟨ez0_18, hl, hq⟩ := hv
                refine kk_Sl (As := [.int z0_18]) (rest := []) (wr := []) ⟨hx, hb, hml, hown, hts⟩ (c_X1_truth l G z0_18) (kk_cwS 1 hts hsb wd_452 wd_453 wd_21 wd_454 rfl rfl hd_X1_truth ⟨Nat.le_of_ble_eq_true rfl, Nat.le_of_ble_eq_true rfl⟩) hA hK hq [] [] [] rfl rfl rfl (by decide) (by decide) (by decide) rfl hl.1 rfl (Nat.le_of_ble_eq_true rfl) dX1_joined_137 ⟨Nat.zero_le _, Nat.zero_le _⟩ (fun r_21 u_20 H locs h_22 hq => ?_)
                have er_21 := h_22
                have hq : kAt G A s [] H locs := hq
                have hf : (r_21 : Int64) = fX1_joined p1 p2 p3 := by
                  exact ((if_neg c_1).trans ((if_neg c_9).trans ((if_neg c_10).trans ((if_neg c_11).trans ((if_neg c_12).trans ((if_pos c_16).trans ((congrArg (fun (z0_18 : Int32) => ((let r_21 : Int64 := fX1_truth z0_18
  r_21) : Int64)) ez0_18.symm).trans ((congrArg (fun (r_21 : Int64) => ((r_21) : Int64)) er_21.symm))))))))).symm
                exact kk_el hx hb hr hlocks hK hq [] () rfl (by decide) dX1_joined_140 hf
              · skip
                refine kk_lc_ge (tgt := 136) hx hb dX1_joined_128 dX1_joined_129 (by decide) (fun c_17 => ?_) (fun c_17 => ?_)
                · skip
                  refine lv_iconst (v := 0) hx hb dX1_joined_136 (by decide) ?_
                  exact J_19 0 _ _ _ ⟨(if_neg c_17).symm, lv_sub hl [0, 1, 2] rfl, hq⟩
                · skip
                  refine lv_iconst (v := 1) hx hb dX1_joined_132 (by decide) ?_
                  refine lv_goto (tgt := 137) hx hb dX1_joined_133 (by decide) ?_
                  exact J_19 1 _ _ _ ⟨(if_pos c_17).symm, lv_sub hl [0, 1, 2] rfl, hq⟩
            · skip
              refine kk_case (c := p2 = 61) (fun c_23 => ?_) (fun c_23 => ?_)
              · skip
                refine lv_lookup (off := 155) (tgt := 156) hx hb dX1_joined_1 (by decide) (by rw [c_23]; try rfl) (by decide) ?_
                refine lv_lload_n hx hb dX1_joined_156 rfl (lv_at hl 0 rfl) ?_
                refine lv_lload_n hx hb dX1_joined_157 rfl (lv_at hl 2 rfl) ?_
                refine kk_join1 (fun (z0_25 : Int32) (H : Heap) (locs : List Loc) (ls : Array Slot) => z0_25 = (if p1 = p3 then 1 else 0) ∧ lv_has ls 5 [(0, .long p1), (2, .int p2), (3, .long p3)] ∧ kAt G A s [] H locs) 167 (fun z0_25 => [.int z0_25]) (fun z0_25 H locs ls hv => ?_) (fun J_26 => ?_)
                · skip
                  obtain ⟨ez0_25, hl, hq⟩ := hv
                  refine kk_Sl (As := [.int z0_25]) (rest := []) (wr := []) ⟨hx, hb, hml, hown, hts⟩ (c_X1_truth l G z0_25) (kk_cwS 1 hts hsb wd_452 wd_453 wd_21 wd_454 rfl rfl hd_X1_truth ⟨Nat.le_of_ble_eq_true rfl, Nat.le_of_ble_eq_true rfl⟩) hA hK hq [] [] [] rfl rfl rfl (by decide) (by decide) (by decide) rfl hl.1 rfl (Nat.le_of_ble_eq_true rfl) dX1_joined_167 ⟨Nat.zero_le _, Nat.zero_le _⟩ (fun r_28 u_27 H locs h_29 hq => ?_)
                  have er_28 := h_29
                  have hq : kAt G A s [] H locs := hq
                  have hf : (r_28 : Int64) = fX1_joined p1 p2 p3 := by
                    exact ((if_neg c_1).trans ((if_neg c_9).trans ((if_neg c_10).trans ((if_neg c_11).trans ((if_neg c_12).trans ((if_neg c_16).trans ((if_pos c_23).trans ((congrArg (fun (z0_25 : Int32) => ((let r_28 : Int64 := fX1_truth z0_25
  r_28) : Int64)) ez0_25.symm).trans ((congrArg (fun (r_28 : Int64) => ((r_28) : Int64)) er_28.symm)))))))))).symm
                  exact kk_el hx hb hr hlocks hK hq [] () rfl (by decide) dX1_joined_170 hf
                · skip
                  refine kk_lc_ne (tgt := 166) hx hb dX1_joined_158 dX1_joined_159 (by decide) (fun c_24 => ?_) (fun c_24 => ?_)
                  · skip
                    refine lv_iconst (v := 0) hx hb dX1_joined_166 (by decide) ?_
                    exact J_26 0 _ _ _ ⟨(if_neg c_24).symm, lv_sub hl [0, 1, 2] rfl, hq⟩
                  · skip
                    refine lv_iconst (v := 1) hx hb dX1_joined_162 (by decide) ?_
                    refine lv_goto (tgt := 167) hx hb dX1_joined_163 (by decide) ?_
                    exact J_26 1 _ _ _ ⟨(if_pos c_24).symm, lv_sub hl [0, 1, 2] rfl, hq⟩
              · skip
                refine kk_case (c := p2 = 62) (fun c_30 => ?_) (fun c_30 => ?_)
                · skip
                  refine lv_lookup (off := 140) (tgt := 141) hx hb dX1_joined_1 (by decide) (by rw [c_30]; try rfl) (by decide) ?_
                  refine lv_lload_n hx hb dX1_joined_141 rfl (lv_at hl 0 rfl) ?_
                  refine lv_lload_n hx hb dX1_joined_142 rfl (lv_at hl 2 rfl) ?_
                  refine kk_join1 (fun (z0_32 : Int32) (H : Heap) (locs : List Loc) (ls : Array Slot) => z0_32 = (if p3 < p1 then 1 else 0) ∧ lv_has ls 5 [(0, .long p1), (2, .int p2), (3, .long p3)] ∧ kAt G A s [] H locs) 152 (fun z0_32 => [.int z0_32]) (fun z0_32 H locs ls hv => ?_) (fun J_33 => ?_)
                  · skip
                    obtain ⟨ez0_32, hl, hq⟩ := hv
                    refine kk_Sl (As := [.int z0_32]) (rest := []) (wr := []) ⟨hx, hb, hml, hown, hts⟩ (c_X1_truth l G z0_32) (kk_cwS 1 hts hsb wd_452 wd_453 wd_21 wd_454 rfl rfl hd_X1_truth ⟨Nat.le_of_ble_eq_true rfl, Nat.le_of_ble_eq_true rfl⟩) hA hK hq [] [] [] rfl rfl rfl (by decide) (by decide) (by decide) rfl hl.1 rfl (Nat.le_of_ble_eq_true rfl) dX1_joined_152 ⟨Nat.zero_le _, Nat.zero_le _⟩ (fun r_35 u_34 H locs h_36 hq => ?_)
                    have er_35 := h_36
                    have hq : kAt G A s [] H locs := hq
                    have hf : (r_35 : Int64) = fX1_joined p1 p2 p3 := by
                      exact ((if_neg c_1).trans ((if_neg c_9).trans ((if_neg c_10).trans ((if_neg c_11).trans ((if_neg c_12).trans ((if_neg c_16).trans ((if_neg c_23).trans ((if_pos c_30).trans ((congrArg (fun (z0_32 : Int32) => ((let r_35 : Int64 := fX1_truth z0_32
  r_35) : Int64)) ez0_32.symm).trans ((congrArg (fun (r_35 : Int64) => ((r_35) : Int64)) er_35.symm))))))))))).symm
                    exact kk_el hx hb hr hlocks hK hq [] () rfl (by decide) dX1_joined_155 hf
                  · skip
                    refine kk_lc_le (tgt := 151) hx hb dX1_joined_143 dX1_joined_144 (by decide) (fun c_31 => ?_) (fun c_31 => ?_)
                    · skip
                      refine lv_iconst (v := 0) hx hb dX1_joined_151 (by decide) ?_
                      exact J_33 0 _ _ _ ⟨(if_neg c_31).symm, lv_sub hl [0, 1, 2] rfl, hq⟩
                    · skip
                      refine lv_iconst (v := 1) hx hb dX1_joined_147 (by decide) ?_
                      refine lv_goto (tgt := 152) hx hb dX1_joined_148 (by decide) ?_
                      exact J_33 1 _ _ _ ⟨(if_pos c_31).symm, lv_sub hl [0, 1, 2] rfl, hq⟩
                · skip
                  refine kk_case (c := p2 = 124) (fun c_37 => ?_) (fun c_37 => ?_)
                  · skip
                    refine lv_lookup (off := 83) (tgt := 84) hx hb dX1_joined_1 (by decide) (by rw [c_37]; try rfl) (by decide) ?_
                    refine lv_lload_n hx hb dX1_joined_84 rfl (lv_at hl 0 rfl) ?_
                    refine lv_lconst (v := 0) hx hb dX1_joined_85 (by decide) ?_
                    refine kk_join1 (fun (z0_39 : Int32) (H : Heap) (locs : List Loc) (ls : Array Slot) => z0_39 = (if p1 = 0 then if p3 = 0 then 0 else 1 else 1) ∧ lv_has ls 5 [(0, .long p1), (2, .int p2), (3, .long p3)] ∧ kAt G A s [] H locs) 101 (fun z0_39 => [.int z0_39]) (fun z0_39 H locs ls hv => ?_) (fun J_40 => ?_)
                    · skip
                      obtain ⟨ez0_39, hl, hq⟩ := hv
                      refine kk_Sl (As := [.int z0_39]) (rest := []) (wr := []) ⟨hx, hb, hml, hown, hts⟩ (c_X1_truth l G z0_39) (kk_cwS 1 hts hsb wd_452 wd_453 wd_21 wd_454 rfl rfl hd_X1_truth ⟨Nat.le_of_ble_eq_true rfl, Nat.le_of_ble_eq_true rfl⟩) hA hK hq [] [] [] rfl rfl rfl (by decide) (by decide) (by decide) rfl hl.1 rfl (Nat.le_of_ble_eq_true rfl) dX1_joined_101 ⟨Nat.zero_le _, Nat.zero_le _⟩ (fun r_42 u_41 H locs h_43 hq => ?_)
                      have er_42 := h_43
                      have hq : kAt G A s [] H locs := hq
                      have hf : (r_42 : Int64) = fX1_joined p1 p2 p3 := by
                        exact ((if_neg c_1).trans ((if_neg c_9).trans ((if_neg c_10).trans ((if_neg c_11).trans ((if_neg c_12).trans ((if_neg c_16).trans ((if_neg c_23).trans ((if_neg c_30).trans ((if_pos c_37).trans ((congrArg (fun (z0_39 : Int32) => ((let r_42 : Int64 := fX1_truth z0_39
  r_42) : Int64)) ez0_39.symm).trans ((congrArg (fun (r_42 : Int64) => ((r_42) : Int64)) er_42.symm)))))))))))).symm
                      exact kk_el hx hb hr hlocks hK hq [] () rfl (by decide) dX1_joined_104 hf
                    · skip
                      refine kk_lc_ne (tgt := 96) hx hb dX1_joined_86 dX1_joined_87 (by decide) (fun c_38 => ?_) (fun c_38 => ?_)
                      · skip
                        refine lv_iconst (v := 1) hx hb dX1_joined_96 (by decide) ?_
                        refine lv_goto (tgt := 101) hx hb dX1_joined_97 (by decide) ?_
                        exact J_40 1 _ _ _ ⟨(if_neg c_38).symm, lv_sub hl [0, 1, 2] rfl, hq⟩
                      · skip
                        refine lv_lload_n hx hb dX1_joined_90 rfl (lv_at hl 2 rfl) ?_
                        refine lv_lconst (v := 0) hx hb dX1_joined_91 (by decide) ?_
                        refine kk_lc_eq (tgt := 100) hx hb dX1_joined_92 dX1_joined_93 (by decide) (fun c_44 => ?_) (fun c_44 => ?_)
                        · skip
                          refine lv_iconst (v := 0) hx hb dX1_joined_100 (by decide) ?_
                          exact J_40 0 _ _ _ ⟨((if_pos c_38).trans (if_pos c_44)).symm, lv_sub hl [0, 1, 2] rfl, hq⟩
                        · skip
                          refine lv_iconst (v := 1) hx hb dX1_joined_96 (by decide) ?_
                          refine lv_goto (tgt := 101) hx hb dX1_joined_97 (by decide) ?_
                          exact J_40 1 _ _ _ ⟨((if_pos c_38).trans (if_neg c_44)).symm, lv_sub hl [0, 1, 2] rfl, hq⟩
                  · skip
                    refine lv_lookup (off := 196) (tgt := 197) hx hb dX1_joined_1 (by decide) (kk_lk (kk_ne (k := 38) c_1 (by decide)) (kk_lk (kk_ne (k := 42) c_9 (by decide)) (kk_lk (kk_ne (k := 43) c_10 (by decide)) (kk_lk (kk_ne (k := 45) c_11 (by decide)) (kk_lk (kk_ne (k := 47) c_12 (by decide)) (kk_lk (kk_ne (k := 60) c_16 (by decide)) (kk_lk (kk_ne (k := 61) c_23 (by decide)) (kk_lk (kk_ne (k := 62) c_30 (by decide)) (kk_lk (kk_ne (k := 124) c_37 (by decide)) rfl))))))))) (by decide) ?_
                    refine lv_lconst (v := 0) hx hb dX1_joined_197 (by decide) ?_
                    have hf : (0 : Int64) = fX1_joined p1 p2 p3 := by
                      exact ((if_neg c_1).trans ((if_neg c_9).trans ((if_neg c_10).trans ((if_neg c_11).trans ((if_neg c_12).trans ((if_neg c_16).trans ((if_neg c_23).trans ((if_neg c_30).trans ((if_neg c_37)))))))))).symm
                    exact kk_el hx hb hr hlocks hK hq [] () rfl (by decide) dX1_joined_198 hf
theorem hd_X1_joined : yX1_joined.cls ≠ "java/lang/invoke/MethodHandle" ∧ yX1_joined.cls ≠ "java/lang/invoke/VarHandle" ∧ (parseMethodDescriptor yX1_joined.desc).map (fun d => d.parameters.length) = some 3 := by decide +kernel
theorem hd_X1_lay : yX1_lay.cls = RX1 ∧ yX1_lay.cls ≠ "java/lang/invoke/MethodHandle" ∧ yX1_lay.cls ≠ "java/lang/invoke/VarHandle" ∧ (parseMethodDescriptor yX1_lay.desc).map (fun d => d.parameters.length) = some 1 := by decide +kernel
theorem hd_X1_letter : yX1_letter.cls ≠ "java/lang/invoke/MethodHandle" ∧ yX1_letter.cls ≠ "java/lang/invoke/VarHandle" ∧ (parseMethodDescriptor yX1_letter.desc).map (fun d => d.parameters.length) = some 2 := by decide +kernel
theorem hd_X1_take : yX1_take.cls = RX1 ∧ yX1_take.cls ≠ "java/lang/invoke/MethodHandle" ∧ yX1_take.cls ≠ "java/lang/invoke/VarHandle" ∧ (parseMethodDescriptor yX1_take.desc).map (fun d => d.parameters.length) = some 0 := by decide +kernel
def fX1_work (p1 : Int32) (L_top : Int32) (fV : Nat → Int64) (C_place : Int64) (C_speed : Int64) (C_posture : Int32) (C_since : Int32) (C_height : Int32) (C_ticks : Int32) : Int32 × (Nat → Int64) :=
  let x3_1 : Int32 := -p1
  if 0 < x3_1 then (
    if x3_1 < 97 then (
      if x3_1 = 33 then (
        let r_25 : Int64 := (fX1_take L_top fV).1
        let u_24 : Int32 := (fX1_take L_top fV).2
        let z0_28 : Int32 := if r_25 = 0 then 1 else 0
        let r_31 : Int64 := fX1_truth z0_28
        let u_33 : Int32 × (Nat → Int64) := fX1_lay r_31 u_24 fV
        (u_33.1, u_33.2))
      else (
        if x3_1 = 126 then (
          let r_19 : Int64 := (fX1_take L_top fV).1
          let u_18 : Int32 := (fX1_take L_top fV).2
          let u_21 : Int32 × (Nat → Int64) := fX1_lay (-r_19) u_18 fV
          (u_21.1, u_21.2))
        else (
          let r_7 : Int64 := (fX1_take L_top fV).1
          let u_6 : Int32 := (fX1_take L_top fV).2
          let r_10 : Int64 := (fX1_take u_6 fV).1
          let u_9 : Int32 := (fX1_take u_6 fV).2
          let r_13 : Int64 := fX1_joined r_10 x3_1 r_7
          let u_15 : Int32 × (Nat → Int64) := fX1_lay r_13 u_9 fV
          (u_15.1, u_15.2))))
    else (
      if 122 < x3_1 then (
        if x3_1 = 33 then (
          let r_58 : Int64 := (fX1_take L_top fV).1
          let u_57 : Int32 := (fX1_take L_top fV).2
          let z0_61 : Int32 := if r_58 = 0 then 1 else 0
          let r_64 : Int64 := fX1_truth z0_61
          let u_66 : Int32 × (Nat → Int64) := fX1_lay r_64 u_57 fV
          (u_66.1, u_66.2))
        else (
          if x3_1 = 126 then (
            let r_52 : Int64 := (fX1_take L_top fV).1
            let u_51 : Int32 := (fX1_take L_top fV).2
            let u_54 : Int32 × (Nat → Int64) := fX1_lay (-r_52) u_51 fV
            (u_54.1, u_54.2))
          else (
            let r_40 : Int64 := (fX1_take L_top fV).1
            let u_39 : Int32 := (fX1_take L_top fV).2
            let r_43 : Int64 := (fX1_take u_39 fV).1
            let u_42 : Int32 := (fX1_take u_39 fV).2
            let r_46 : Int64 := fX1_joined r_43 x3_1 r_40
            let u_48 : Int32 × (Nat → Int64) := fX1_lay r_46 u_42 fV
            (u_48.1, u_48.2))))
      else (
        let r_70 : Int64 := fX1_letter x3_1 C_place C_speed C_posture C_since C_height C_ticks
        let u_72 : Int32 × (Nat → Int64) := fX1_lay r_70 L_top fV
        (u_72.1, u_72.2))))
  else (
    let u_75 : Int32 × (Nat → Int64) := fX1_lay p1.toInt64 L_top fV
    (u_75.1, u_75.2))

set_option maxHeartbeats 4000000 in
set_option maxRecDepth 100000 in
theorem c_X1_work (l : Launch) (G : va_G) (aL aV aC rL_parts : Nat) (cV : ClassId) (p1 : Int32) (L_count : Int32) (L_fault : Int32) (L_top : Int32) (fV : Nat → Int64) (C_place : Int64) (C_speed : Int64) (C_posture : Int32) (C_since : Int32) (C_height : Int32) (C_ticks : Int32) (C_way : Int32) (C_strength : Int32) (C_drops : Int32) (C_greatestDrop : Int32) (C_otherPlace : Int64) (C_otherSpeed : Int64) (h0 : 0 ≤ L_top.toInt) (h1 : L_top.toInt ≤ 60) : kCv l yX1_work (Cond.code yX1_work cX1_work 8 none :: wsL_law) ({ frames := 2, cells := 0, slots := 0, locals := 44 }) G [(cV, .long)] [.ref aL, .int p1, .ref aC] [(aL, .inr (1, [.ref rL_parts, .int L_count, .int L_fault, .ref aV, .int L_top])), (aV, .inl (cV, 60, .inr (.inl fV))), (aC, .inr (0, [.long C_place, .long C_speed, .int C_posture, .int C_since, .int C_height, .int C_ticks, .int C_way, .int C_strength, .int C_drops, .int C_greatestDrop, .long C_otherPlace, .long C_otherSpeed]))] (fun (u : Int32 × (Nat → Int64)) => u = fX1_work p1 L_top fV C_place C_speed C_posture C_since C_height C_ticks) (fun (u : Int32 × (Nat → Int64)) => [(aL, .inr (1, [.ref rL_parts, .int L_count, .int L_fault, .ref aV, .int u.1])), (aV, .inl (cV, 60, .inr (.inl u.2))), (aC, .inr (0, [.long C_place, .long C_speed, .int C_posture, .int C_since, .int C_height, .int C_ticks, .int C_way, .int C_strength, .int C_drops, .int C_greatestDrop, .long C_otherPlace, .long C_otherSpeed]))]) := by
  intro sz
  refine Met.ofW (cc := cX1_work) (maxL := 8) (ret := none) (by decide) rfl ?_
  intro p e s m args below meth c s₁ B hml hv
  obtain ⟨rfl, hv⟩ := hv
  obtain ⟨rfl, hK, hq, hA⟩ := kk_begin hv
  have hx := B.exec
  have hb := B.bytes
  have hr := B.returns
  have hts := atoms_spec (ws := (Cond.code yX1_work cX1_work 8 none :: wsL_law)) B.pre
  have hown : s.vm.findClass RX1 = some m.cls := findClass_of_methodNamed B.named
  have hlocks := B.notSynchronized
  have hsb : ∀ w ∈ wsL_law, w ∈ (Cond.code yX1_work cX1_work 8 none :: wsL_law) := fun _ h => List.mem_cons_of_mem _ h
  generalize va_A [(aL, .inr (1, [.ref rL_parts, .int L_count, .int L_fault, .ref aV, .int L_top])), (aV, .inl (cV, 60, .inr (.inl fV))), (aC, .inr (0, [.long C_place, .long C_speed, .int C_posture, .int C_since, .int C_height, .int C_ticks, .int C_way, .int C_strength, .int C_drops, .int C_greatestDrop, .long C_otherPlace, .long C_otherSpeed]))] s.heap.size = A at hq hA ⊢
  have hl := lv_entry ([.ref aL, .int p1, .ref aC]) (n := 8) (Nat.le_of_ble_eq_true rfl)
  rw [lg_entry_eq]
  generalize (lg_sl ([.ref aL, .int p1, .ref aC]) ++ List.replicate (8 - (lg_sl ([.ref aL, .int p1, .ref aC])).length) Slot.unset).toArray = ls at hl ⊢
  have hl : lv_has ls 8 [(0, .ref aL), (1, .int p1), (2, .ref aC)] := hl
  refine lv_iload_n hx hb dX1_work_0 rfl (lv_at hl 1 rfl) ?_
  refine lv_ineg hx hb dX1_work_1 ?_
  refine lv_topi (fun x3_1 ex3_1 => ?_)
  refine lv_istore_n (lv' := [(3, .int x3_1), (0, .ref aL), (1, .int p1), (2, .ref aC)]) hx hb dX1_work_2 rfl hl (by decide) rfl (fun ls hl => ?_)
  refine lv_iload_n hx hb dX1_work_3 rfl (lv_at hl 0 rfl) ?_
  refine lv_if_gt (tgt := 16) hx hb dX1_work_4 (by decide) (fun c_2 => ?_) (fun c_2 => ?_)
  · skip
    refine lv_iload_n hx hb dX1_work_16 rfl (lv_at hl 0 rfl) ?_
    refine lv_bipush (v := 97) hx hb dX1_work_17 (by decide) ?_
    refine lv_icmp_lt (tgt := 40) hx hb dX1_work_19 (by decide) (fun c_3 => ?_) (fun c_3 => ?_)
    · skip
      refine lv_iload_n hx hb dX1_work_40 rfl (lv_at hl 0 rfl) ?_
      refine lv_bipush (v := 33) hx hb dX1_work_41 (by decide) ?_
      refine lv_icmp_ne (tgt := 70) hx hb dX1_work_43 (by decide) (fun c_4 => ?_) (fun c_4 => ?_)
      · skip
        refine lv_iload_n hx hb dX1_work_70 rfl (lv_at hl 0 rfl) ?_
        refine lv_bipush (v := 126) hx hb dX1_work_71 (by decide) ?_
        refine lv_icmp_ne (tgt := 88) hx hb dX1_work_73 (by decide) (fun c_5 => ?_) (fun c_5 => ?_)
        · skip
          refine lv_aload_n hx hb dX1_work_88 rfl (lv_at hl 1 rfl) ?_
          refine kk_Vl (As := []) (rest := []) (wr := [(aC, .inr (0, [.long C_place, .long C_speed, .int C_posture, .int C_since, .int C_height, .int C_ticks, .int C_way, .int C_strength, .int C_drops, .int C_greatestDrop, .long C_otherPlace, .long C_otherSpeed]))]) ⟨hx, hb, hml, hown, hts⟩ (c_X1_take l G aL aV rL_parts cV L_count L_fault L_top fV (by assumption)) (kk_cwV 0 hts hsb wd_448 wd_449 wd_450 wd_21 wd_451 rfl rfl hd_X1_take ⟨Nat.le_of_ble_eq_true rfl, Nat.le_of_ble_eq_true rfl⟩) hA hK hq [0, 1] [2] [0] rfl rfl rfl (by decide) (by decide) (by decide) 0 1 rfl rfl rfl rfl hl.1 rfl (Nat.le_of_ble_eq_true rfl) dX1_work_89 ⟨Nat.zero_le _, Nat.zero_le _⟩ (fun r_7 u_6 H locs h_8 hq => ?_)
          obtain ⟨er_7, eu_6⟩ := h_8
          have hq : kAt G A s [(aC, .inr (0, [.long C_place, .long C_speed, .int C_posture, .int C_since, .int C_height, .int C_ticks, .int C_way, .int C_strength, .int C_drops, .int C_greatestDrop, .long C_otherPlace, .long C_otherSpeed])), (aL, .inr (1, [.ref rL_parts, .int L_count, .int L_fault, .ref aV, .int u_6])), (aV, .inl (cV, 60, .inr (.inl fV)))] H locs := hq
          have au_6 : 0 ≤ u_6.toInt := by rw [eu_6]; exact (take_top (by assumption) (by assumption)).1
          have bu_6 : u_6.toInt ≤ 60 := by rw [eu_6]; exact (take_top (by assumption) (by assumption)).2
          refine lv_lstore (lv' := [(4, .long r_7), (3, .int x3_1), (0, .ref aL), (1, .int p1), (2, .ref aC)]) hx hb dX1_work_92 hl (by decide) rfl (fun ls hl => ?_)
          refine lv_aload_n hx hb dX1_work_94 rfl (lv_at hl 2 rfl) ?_
          refine kk_Vl (As := []) (rest := []) (wr := [(aC, .inr (0, [.long C_place, .long C_speed, .int C_posture, .int C_since, .int C_height, .int C_ticks, .int C_way, .int C_strength, .int C_drops, .int C_greatestDrop, .long C_otherPlace, .long C_otherSpeed]))]) ⟨hx, hb, hml, hown, hts⟩ (c_X1_take l G aL aV rL_parts cV L_count L_fault u_6 fV (by assumption)) (kk_cwV 0 hts hsb wd_448 wd_449 wd_450 wd_21 wd_451 rfl rfl hd_X1_take ⟨Nat.le_of_ble_eq_true rfl, Nat.le_of_ble_eq_true rfl⟩) hA hK hq [1, 2] [0] [0] rfl rfl rfl (by decide) (by decide) (by decide) 0 1 rfl rfl rfl rfl hl.1 rfl (Nat.le_of_ble_eq_true rfl) dX1_work_95 ⟨Nat.zero_le _, Nat.zero_le _⟩ (fun r_10 u_9 H locs h_11 hq => ?_)
          obtain ⟨er_10, eu_9⟩ := h_11
          have hq : kAt G A s [(aC, .inr (0, [.long C_place, .long C_speed, .int C_posture, .int C_since, .int C_height, .int C_ticks, .int C_way, .int C_strength, .int C_drops, .int C_greatestDrop, .long C_otherPlace, .long C_otherSpeed])), (aL, .inr (1, [.ref rL_parts, .int L_count, .int L_fault, .ref aV, .int u_9])), (aV, .inl (cV, 60, .inr (.inl fV)))] H locs := hq
          have au_9 : 0 ≤ u_9.toInt := by rw [eu_9]; exact (take_top (by assumption) (by assumption)).1
          have bu_9 : u_9.toInt ≤ 60 := by rw [eu_9]; exact (take_top (by assumption) (by assumption)).2
          refine lv_lstore (lv' := [(6, .long r_10), (4, .long r_7), (3, .int x3_1), (0, .ref aL), (1, .int p1), (2, .ref aC)]) hx hb dX1_work_98 hl (by decide) rfl (fun ls hl => ?_)
          refine lv_aload_n hx hb dX1_work_100 rfl (lv_at hl 3 rfl) ?_
          refine lv_lload hx hb dX1_work_101 (lv_at hl 0 rfl) ?_
          refine lv_iload_n hx hb dX1_work_103 rfl (lv_at hl 2 rfl) ?_
          refine lv_lload hx hb dX1_work_104 (lv_at hl 1 rfl) ?_
          refine kk_Sl (As := [.long r_10, .int x3_1, .long r_7]) (rest := [.ref aL]) (wr := [(aC, .inr (0, [.long C_place, .long C_speed, .int C_posture, .int C_since, .int C_height, .int C_ticks, .int C_way, .int C_strength, .int C_drops, .int C_greatestDrop, .long C_otherPlace, .long C_otherSpeed])), (aL, .inr (1, [.ref rL_parts, .int L_count, .int L_fault, .ref aV, .int u_9])), (aV, .inl (cV, 60, .inr (.inl fV)))]) ⟨hx, hb, hml, hown, hts⟩ (c_X1_joined l G r_10 x3_1 r_7) (kk_cwS 3 hts hsb wd_455 wd_456 wd_21 wd_457 rfl rfl hd_X1_joined ⟨Nat.le_of_ble_eq_true rfl, Nat.le_of_ble_eq_true rfl⟩) hA hK hq [] [0, 1, 2] [] rfl rfl rfl (by decide) (by decide) (by decide) rfl hl.1 rfl (Nat.le_of_ble_eq_true rfl) dX1_work_106 ⟨Nat.zero_le _, Nat.zero_le _⟩ (fun r_13 u_12 H locs h_14 hq => ?_)
          have er_13 := h_14
          have hq : kAt G A s [(aC, .inr (0, [.long C_place, .long C_speed, .int C_posture, .int C_since, .int C_height, .int C_ticks, .int C_way, .int C_strength, .int C_drops, .int C_greatestDrop, .long C_otherPlace, .long C_otherSpeed])), (aL, .inr (1, [.ref rL_parts, .int L_count, .int L_fault, .ref aV, .int u_9])), (aV, .inl (cV, 60, .inr (.inl fV)))] H locs := hq
          refine kk_Vv (As := [.long r_13]) (rest := []) (wr := [(aC, .inr (0, [.long C_place, .long C_speed, .int C_posture, .int C_since, .int C_height, .int C_ticks, .int C_way, .int C_strength, .int C_drops, .int C_greatestDrop, .long C_otherPlace, .long C_otherSpeed]))]) ⟨hx, hb, hml, hown, hts⟩ (c_X1_lay l G aL aV rL_parts cV r_13 L_count L_fault u_9 fV (by assumption)) (kk_cwV 1 hts hsb wd_436 wd_437 wd_438 wd_21 wd_439 rfl rfl hd_X1_lay ⟨Nat.le_of_ble_eq_true rfl, Nat.le_of_ble_eq_true rfl⟩) hA hK hq [1, 2] [0] [0] rfl rfl rfl (by decide) (by decide) (by decide) 0 1 rfl rfl rfl rfl hl.1 rfl (Nat.le_of_ble_eq_true rfl) dX1_work_109 ⟨Nat.zero_le _, Nat.zero_le _⟩ (fun u_15 H locs h_17 hq => ?_)
          have eu_15 := h_17
          have hq : kAt G A s [(aC, .inr (0, [.long C_place, .long C_speed, .int C_posture, .int C_since, .int C_height, .int C_ticks, .int C_way, .int C_strength, .int C_drops, .int C_greatestDrop, .long C_otherPlace, .long C_otherSpeed])), (aL, .inr (1, [.ref rL_parts, .int L_count, .int L_fault, .ref aV, .int u_15.1])), (aV, .inl (cV, 60, .inr (.inl u_15.2)))] H locs := hq
          have hf : ((u_15.1, u_15.2) : Int32 × (Nat → Int64)) = fX1_work p1 L_top fV C_place C_speed C_posture C_since C_height C_ticks := by
            exact ((congrArg (fun (x3_1 : Int32) => ((if 0 < x3_1 then (
    if x3_1 < 97 then (
      if x3_1 = 33 then (
        let r_25 : Int64 := (fX1_take L_top fV).1
        let u_24 : Int32 := (fX1_take L_top fV).2
        let z0_28 : Int32 := if r_25 = 0 then 1 else 0
        let r_31 : Int64 := fX1_truth z0_28
        let u_33 : Int32 × (Nat → Int64) := fX1_lay r_31 u_24 fV
        (u_33.1, u_33.2))
      else (
        if x3_1 = 126 then (
          let r_19 : Int64 := (fX1_take L_top fV).1
          let u_18 : Int32 := (fX1_take L_top fV).2
          let u_21 : Int32 × (Nat → Int64) := fX1_lay (-r_19) u_18 fV
          (u_21.1, u_21.2))
        else (
          let r_7 : Int64 := (fX1_take L_top fV).1
          let u_6 : Int32 := (fX1_take L_top fV).2
          let r_10 : Int64 := (fX1_take u_6 fV).1
          let u_9 : Int32 := (fX1_take u_6 fV).2
          let r_13 : Int64 := fX1_joined r_10 x3_1 r_7
          let u_15 : Int32 × (Nat → Int64) := fX1_lay r_13 u_9 fV
          (u_15.1, u_15.2))))
    else (
      if 122 < x3_1 then (
        if x3_1 = 33 then (
          let r_58 : Int64 := (fX1_take L_top fV).1
          let u_57 : Int32 := (fX1_take L_top fV).2
          let z0_61 : Int32 := if r_58 = 0 then 1 else 0
          let r_64 : Int64 := fX1_truth z0_61
          let u_66 : Int32 × (Nat → Int64) := fX1_lay r_64 u_57 fV
          (u_66.1, u_66.2))
        else (
          if x3_1 = 126 then (
            let r_52 : Int64 := (fX1_take L_top fV).1
            let u_51 : Int32 := (fX1_take L_top fV).2
            let u_54 : Int32 × (Nat → Int64) := fX1_lay (-r_52) u_51 fV
            (u_54.1, u_54.2))
          else (
            let r_40 : Int64 := (fX1_take L_top fV).1
            let u_39 : Int32 := (fX1_take L_top fV).2
            let r_43 : Int64 := (fX1_take u_39 fV).1
            let u_42 : Int32 := (fX1_take u_39 fV).2
            let r_46 : Int64 := fX1_joined r_43 x3_1 r_40
            let u_48 : Int32 × (Nat → Int64) := fX1_lay r_46 u_42 fV
            (u_48.1, u_48.2))))
      else (
        let r_70 : Int64 := fX1_letter x3_1 C_place C_speed C_posture C_since C_height C_ticks
        let u_72 : Int32 × (Nat → Int64) := fX1_lay r_70 L_top fV
        (u_72.1, u_72.2))))
  else (
    let u_75 : Int32 × (Nat → Int64) := fX1_lay p1.toInt64 L_top fV
    (u_75.1, u_75.2))) : Int32 × (Nat → Int64))) ex3_1.symm).trans ((if_pos c_2).trans ((if_pos c_3).trans ((if_neg c_4).trans ((if_neg c_5).trans ((congrArg (fun (r_7 : Int64) => ((let u_6 : Int32 := (fX1_take L_top fV).2
  let r_10 : Int64 := (fX1_take u_6 fV).1
  let u_9 : Int32 := (fX1_take u_6 fV).2
  let r_13 : Int64 := fX1_joined r_10 x3_1 r_7
  let u_15 : Int32 × (Nat → Int64) := fX1_lay r_13 u_9 fV
  (u_15.1, u_15.2)) : Int32 × (Nat → Int64))) er_7.symm).trans ((congrArg (fun (u_6 : Int32) => ((let r_10 : Int64 := (fX1_take u_6 fV).1
  let u_9 : Int32 := (fX1_take u_6 fV).2
  let r_13 : Int64 := fX1_joined r_10 x3_1 r_7
  let u_15 : Int32 × (Nat → Int64) := fX1_lay r_13 u_9 fV
  (u_15.1, u_15.2)) : Int32 × (Nat → Int64))) eu_6.symm).trans ((congrArg (fun (r_10 : Int64) => ((let u_9 : Int32 := (fX1_take u_6 fV).2
  let r_13 : Int64 := fX1_joined r_10 x3_1 r_7
  let u_15 : Int32 × (Nat → Int64) := fX1_lay r_13 u_9 fV
  (u_15.1, u_15.2)) : Int32 × (Nat → Int64))) er_10.symm).trans ((congrArg (fun (u_9 : Int32) => ((let r_13 : Int64 := fX1_joined r_10 x3_1 r_7
  let u_15 : Int32 × (Nat → Int64) := fX1_lay r_13 u_9 fV
  (u_15.1, u_15.2)) : Int32 × (Nat → Int64))) eu_9.symm).trans ((congrArg (fun (r_13 : Int64) => ((let u_15 : Int32 × (Nat → Int64) := fX1_lay r_13 u_9 fV
  (u_15.1, u_15.2)) : Int32 × (Nat → Int64))) er_13.symm).trans ((congrArg (fun (u_15 : Int32 × (Nat → Int64)) => (((u_15.1, u_15.2)) : Int32 × (Nat → Int64))) eu_15.symm)))))))))))).symm
          exact kk_ev hx hb hr hlocks hK hq [1, 2, 0] (u_15.1, u_15.2) rfl (by decide) dX1_work_112 hf
        · skip
          refine lv_aload_n hx hb dX1_work_76 rfl (lv_at hl 1 rfl) ?_
          refine lv_aload_n hx hb dX1_work_77 rfl (lv_at hl 1 rfl) ?_
          refine kk_Vl (As := []) (rest := [.ref aL]) (wr := [(aC, .inr (0, [.long C_place, .long C_speed, .int C_posture, .int C_since, .int C_height, .int C_ticks, .int C_way, .int C_strength, .int C_drops, .int C_greatestDrop, .long C_otherPlace, .long C_otherSpeed]))]) ⟨hx, hb, hml, hown, hts⟩ (c_X1_take l G aL aV rL_parts cV L_count L_fault L_top fV (by assumption)) (kk_cwV 0 hts hsb wd_448 wd_449 wd_450 wd_21 wd_451 rfl rfl hd_X1_take ⟨Nat.le_of_ble_eq_true rfl, Nat.le_of_ble_eq_true rfl⟩) hA hK hq [0, 1] [2] [0] rfl rfl rfl (by decide) (by decide) (by decide) 0 1 rfl rfl rfl rfl hl.1 rfl (Nat.le_of_ble_eq_true rfl) dX1_work_78 ⟨Nat.zero_le _, Nat.zero_le _⟩ (fun r_19 u_18 H locs h_20 hq => ?_)
          obtain ⟨er_19, eu_18⟩ := h_20
          have hq : kAt G A s [(aC, .inr (0, [.long C_place, .long C_speed, .int C_posture, .int C_since, .int C_height, .int C_ticks, .int C_way, .int C_strength, .int C_drops, .int C_greatestDrop, .long C_otherPlace, .long C_otherSpeed])), (aL, .inr (1, [.ref rL_parts, .int L_count, .int L_fault, .ref aV, .int u_18])), (aV, .inl (cV, 60, .inr (.inl fV)))] H locs := hq
          have au_18 : 0 ≤ u_18.toInt := by rw [eu_18]; exact (take_top (by assumption) (by assumption)).1
          have bu_18 : u_18.toInt ≤ 60 := by rw [eu_18]; exact (take_top (by assumption) (by assumption)).2
          refine lv_lneg hx hb dX1_work_81 ?_
          refine kk_Vv (As := [.long (-r_19)]) (rest := []) (wr := [(aC, .inr (0, [.long C_place, .long C_speed, .int C_posture, .int C_since, .int C_height, .int C_ticks, .int C_way, .int C_strength, .int C_drops, .int C_greatestDrop, .long C_otherPlace, .long C_otherSpeed]))]) ⟨hx, hb, hml, hown, hts⟩ (c_X1_lay l G aL aV rL_parts cV (-r_19) L_count L_fault u_18 fV (by assumption)) (kk_cwV 1 hts hsb wd_436 wd_437 wd_438 wd_21 wd_439 rfl rfl hd_X1_lay ⟨Nat.le_of_ble_eq_true rfl, Nat.le_of_ble_eq_true rfl⟩) hA hK hq [1, 2] [0] [0] rfl rfl rfl (by decide) (by decide) (by decide) 0 1 rfl rfl rfl rfl hl.1 rfl (Nat.le_of_ble_eq_true rfl) dX1_work_82 ⟨Nat.zero_le _, Nat.zero_le _⟩ (fun u_21 H locs h_23 hq => ?_)
          have eu_21 := h_23
          have hq : kAt G A s [(aC, .inr (0, [.long C_place, .long C_speed, .int C_posture, .int C_since, .int C_height, .int C_ticks, .int C_way, .int C_strength, .int C_drops, .int C_greatestDrop, .long C_otherPlace, .long C_otherSpeed])), (aL, .inr (1, [.ref rL_parts, .int L_count, .int L_fault, .ref aV, .int u_21.1])), (aV, .inl (cV, 60, .inr (.inl u_21.2)))] H locs := hq
          refine lv_goto (tgt := 112) hx hb dX1_work_85 (by decide) ?_
          have hf : ((u_21.1, u_21.2) : Int32 × (Nat → Int64)) = fX1_work p1 L_top fV C_place C_speed C_posture C_since C_height C_ticks := by
            exact ((congrArg (fun (x3_1 : Int32) => ((if 0 < x3_1 then (
    if x3_1 < 97 then (
      if x3_1 = 33 then (
        let r_25 : Int64 := (fX1_take L_top fV).1
        let u_24 : Int32 := (fX1_take L_top fV).2
        let z0_28 : Int32 := if r_25 = 0 then 1 else 0
        let r_31 : Int64 := fX1_truth z0_28
        let u_33 : Int32 × (Nat → Int64) := fX1_lay r_31 u_24 fV
        (u_33.1, u_33.2))
      else (
        if x3_1 = 126 then (
          let r_19 : Int64 := (fX1_take L_top fV).1
          let u_18 : Int32 := (fX1_take L_top fV).2
          let u_21 : Int32 × (Nat → Int64) := fX1_lay (-r_19) u_18 fV
          (u_21.1, u_21.2))
        else (
          let r_7 : Int64 := (fX1_take L_top fV).1
          let u_6 : Int32 := (fX1_take L_top fV).2
          let r_10 : Int64 := (fX1_take u_6 fV).1
          let u_9 : Int32 := (fX1_take u_6 fV).2
          let r_13 : Int64 := fX1_joined r_10 x3_1 r_7
          let u_15 : Int32 × (Nat → Int64) := fX1_lay r_13 u_9 fV
          (u_15.1, u_15.2))))
    else (
      if 122 < x3_1 then (
        if x3_1 = 33 then (
          let r_58 : Int64 := (fX1_take L_top fV).1
          let u_57 : Int32 := (fX1_take L_top fV).2
          let z0_61 : Int32 := if r_58 = 0 then 1 else 0
          let r_64 : Int64 := fX1_truth z0_61
          let u_66 : Int32 × (Nat → Int64) := fX1_lay r_64 u_57 fV
          (u_66.1, u_66.2))
        else (
          if x3_1 = 126 then (
            let r_52 : Int64 := (fX1_take L_top fV).1
            let u_51 : Int32 := (fX1_take L_top fV).2
            let u_54 : Int32 × (Nat → Int64) := fX1_lay (-r_52) u_51 fV
            (u_54.1, u_54.2))
          else (
            let r_40 : Int64 := (fX1_take L_top fV).1
            let u_39 : Int32 := (fX1_take L_top fV).2
            let r_43 : Int64 := (fX1_take u_39 fV).1
            let u_42 : Int32 := (fX1_take u_39 fV).2
            let r_46 : Int64 := fX1_joined r_43 x3_1 r_40
            let u_48 : Int32 × (Nat → Int64) := fX1_lay r_46 u_42 fV
            (u_48.1, u_48.2))))
      else (
        let r_70 : Int64 := fX1_letter x3_1 C_place C_speed C_posture C_since C_height C_ticks
        let u_72 : Int32 × (Nat → Int64) := fX1_lay r_70 L_top fV
        (u_72.1, u_72.2))))
  else (
    let u_75 : Int32 × (Nat → Int64) := fX1_lay p1.toInt64 L_top fV
    (u_75.1, u_75.2))) : Int32 × (Nat → Int64))) ex3_1.symm).trans ((if_pos c_2).trans ((if_pos c_3).trans ((if_neg c_4).trans ((if_pos c_5).trans ((congrArg (fun (r_19 : Int64) => ((let u_18 : Int32 := (fX1_take L_top fV).2
  let u_21 : Int32 × (Nat → Int64) := fX1_lay (-r_19) u_18 fV
  (u_21.1, u_21.2)) : Int32 × (Nat → Int64))) er_19.symm).trans ((congrArg (fun (u_18 : Int32) => ((let u_21 : Int32 × (Nat → Int64) := fX1_lay (-r_19) u_18 fV
  (u_21.1, u_21.2)) : Int32 × (Nat → Int64))) eu_18.symm).trans ((congrArg (fun (u_21 : Int32 × (Nat → Int64)) => (((u_21.1, u_21.2)) : Int32 × (Nat → Int64))) eu_21.symm))))))))).symm
          exact kk_ev hx hb hr hlocks hK hq [1, 2, 0] (u_21.1, u_21.2) rfl (by decide) dX1_work_112 hf
      · skip
        refine lv_aload_n hx hb dX1_work_46 rfl (lv_at hl 1 rfl) ?_
        refine lv_aload_n hx hb dX1_work_47 rfl (lv_at hl 1 rfl) ?_
        refine kk_Vl (As := []) (rest := [.ref aL]) (wr := [(aC, .inr (0, [.long C_place, .long C_speed, .int C_posture, .int C_since, .int C_height, .int C_ticks, .int C_way, .int C_strength, .int C_drops, .int C_greatestDrop, .long C_otherPlace, .long C_otherSpeed]))]) ⟨hx, hb, hml, hown, hts⟩ (c_X1_take l G aL aV rL_parts cV L_count L_fault L_top fV (by assumption)) (kk_cwV 0 hts hsb wd_448 wd_449 wd_450 wd_21 wd_451 rfl rfl hd_X1_take ⟨Nat.le_of_ble_eq_true rfl, Nat.le_of_ble_eq_true rfl⟩) hA hK hq [0, 1] [2] [0] rfl rfl rfl (by decide) (by decide) (by decide) 0 1 rfl rfl rfl rfl hl.1 rfl (Nat.le_of_ble_eq_true rfl) dX1_work_48 ⟨Nat.zero_le _, Nat.zero_le _⟩ (fun r_25 u_24 H locs h_26 hq => ?_)
        obtain ⟨er_25, eu_24⟩ := h_26
        have hq : kAt G A s [(aC, .inr (0, [.long C_place, .long C_speed, .int C_posture, .int C_since, .int C_height, .int C_ticks, .int C_way, .int C_strength, .int C_drops, .int C_greatestDrop, .long C_otherPlace, .long C_otherSpeed])), (aL, .inr (1, [.ref rL_parts, .int L_count, .int L_fault, .ref aV, .int u_24])), (aV, .inl (cV, 60, .inr (.inl fV)))] H locs := hq
        have au_24 : 0 ≤ u_24.toInt := by rw [eu_24]; exact (take_top (by assumption) (by assumption)).1
        have bu_24 : u_24.toInt ≤ 60 := by rw [eu_24]; exact (take_top (by assumption) (by assumption)).2
        refine lv_lconst (v := 0) hx hb dX1_work_51 (by decide) ?_
        refine kk_join1 (fun (z0_28 : Int32) (H : Heap) (locs : List Loc) (ls : Array Slot) => z0_28 = (if r_25 = 0 then 1 else 0) ∧ lv_has ls 8 [(3, .int x3_1), (0, .ref aL), (1, .int p1), (2, .ref aC)] ∧ kAt G A s [(aC, .inr (0, [.long C_place, .long C_speed, .int C_posture, .int C_since, .int C_height, .int C_ticks, .int C_way, .int C_strength, .int C_drops, .int C_greatestDrop, .long C_otherPlace, .long C_otherSpeed])), (aL, .inr (1, [.ref rL_parts, .int L_count, .int L_fault, .ref aV, .int u_24])), (aV, .inl (cV, 60, .inr (.inl fV)))] H locs) 61 (fun z0_28 => [.int z0_28, .ref aL]) (fun z0_28 H locs ls hv => ?_) (fun J_29 => ?_)
        · skip
          obtain ⟨ez0_28, hl, hq⟩ := hv
          refine kk_Sl (As := [.int z0_28]) (rest := [.ref aL]) (wr := [(aC, .inr (0, [.long C_place, .long C_speed, .int C_posture, .int C_since, .int C_height, .int C_ticks, .int C_way, .int C_strength, .int C_drops, .int C_greatestDrop, .long C_otherPlace, .long C_otherSpeed])), (aL, .inr (1, [.ref rL_parts, .int L_count, .int L_fault, .ref aV, .int u_24])), (aV, .inl (cV, 60, .inr (.inl fV)))]) ⟨hx, hb, hml, hown, hts⟩ (c_X1_truth l G z0_28) (kk_cwS 1 hts hsb wd_452 wd_453 wd_21 wd_454 rfl rfl hd_X1_truth ⟨Nat.le_of_ble_eq_true rfl, Nat.le_of_ble_eq_true rfl⟩) hA hK hq [] [0, 1, 2] [] rfl rfl rfl (by decide) (by decide) (by decide) rfl hl.1 rfl (Nat.le_of_ble_eq_true rfl) dX1_work_61 ⟨Nat.zero_le _, Nat.zero_le _⟩ (fun r_31 u_30 H locs h_32 hq => ?_)
          have er_31 := h_32
          have hq : kAt G A s [(aC, .inr (0, [.long C_place, .long C_speed, .int C_posture, .int C_since, .int C_height, .int C_ticks, .int C_way, .int C_strength, .int C_drops, .int C_greatestDrop, .long C_otherPlace, .long C_otherSpeed])), (aL, .inr (1, [.ref rL_parts, .int L_count, .int L_fault, .ref aV, .int u_24])), (aV, .inl (cV, 60, .inr (.inl fV)))] H locs := hq
          refine kk_Vv (As := [.long r_31]) (rest := []) (wr := [(aC, .inr (0, [.long C_place, .long C_speed, .int C_posture, .int C_since, .int C_height, .int C_ticks, .int C_way, .int C_strength, .int C_drops, .int C_greatestDrop, .long C_otherPlace, .long C_otherSpeed]))]) ⟨hx, hb, hml, hown, hts⟩ (c_X1_lay l G aL aV rL_parts cV r_31 L_count L_fault u_24 fV (by assumption)) (kk_cwV 1 hts hsb wd_436 wd_437 wd_438 wd_21 wd_439 rfl rfl hd_X1_lay ⟨Nat.le_of_ble_eq_true rfl, Nat.le_of_ble_eq_true rfl⟩) hA hK hq [1, 2] [0] [0] rfl rfl rfl (by decide) (by decide) (by decide) 0 1 rfl rfl rfl rfl hl.1 rfl (Nat.le_of_ble_eq_true rfl) dX1_work_64 ⟨Nat.zero_le _, Nat.zero_le _⟩ (fun u_33 H locs h_35 hq => ?_)
          have eu_33 := h_35
          have hq : kAt G A s [(aC, .inr (0, [.long C_place, .long C_speed, .int C_posture, .int C_since, .int C_height, .int C_ticks, .int C_way, .int C_strength, .int C_drops, .int C_greatestDrop, .long C_otherPlace, .long C_otherSpeed])), (aL, .inr (1, [.ref rL_parts, .int L_count, .int L_fault, .ref aV, .int u_33.1])), (aV, .inl (cV, 60, .inr (.inl u_33.2)))] H locs := hq
          refine lv_goto (tgt := 112) hx hb dX1_work_67 (by decide) ?_
          have hf : ((u_33.1, u_33.2) : Int32 × (Nat → Int64)) = fX1_work p1 L_top fV C_place C_speed C_posture C_since C_height C_ticks := by
            exact ((congrArg (fun (x3_1 : Int32) => ((if 0 < x3_1 then (
    if x3_1 < 97 then (
      if x3_1 = 33 then (
        let r_25 : Int64 := (fX1_take L_top fV).1
        let u_24 : Int32 := (fX1_take L_top fV).2
        let z0_28 : Int32 := if r_25 = 0 then 1 else 0
        let r_31 : Int64 := fX1_truth z0_28
        let u_33 : Int32 × (Nat → Int64) := fX1_lay r_31 u_24 fV
        (u_33.1, u_33.2))
      else (
        if x3_1 = 126 then (
          let r_19 : Int64 := (fX1_take L_top fV).1
          let u_18 : Int32 := (fX1_take L_top fV).2
          let u_21 : Int32 × (Nat → Int64) := fX1_lay (-r_19) u_18 fV
          (u_21.1, u_21.2))
        else (
          let r_7 : Int64 := (fX1_take L_top fV).1
          let u_6 : Int32 := (fX1_take L_top fV).2
          let r_10 : Int64 := (fX1_take u_6 fV).1
          let u_9 : Int32 := (fX1_take u_6 fV).2
          let r_13 : Int64 := fX1_joined r_10 x3_1 r_7
          let u_15 : Int32 × (Nat → Int64) := fX1_lay r_13 u_9 fV
          (u_15.1, u_15.2))))
    else (
      if 122 < x3_1 then (
        if x3_1 = 33 then (
          let r_58 : Int64 := (fX1_take L_top fV).1
          let u_57 : Int32 := (fX1_take L_top fV).2
          let z0_61 : Int32 := if r_58 = 0 then 1 else 0
          let r_64 : Int64 := fX1_truth z0_61
          let u_66 : Int32 × (Nat → Int64) := fX1_lay r_64 u_57 fV
          (u_66.1, u_66.2))
        else (
          if x3_1 = 126 then (
            let r_52 : Int64 := (fX1_take L_top fV).1
            let u_51 : Int32 := (fX1_take L_top fV).2
            let u_54 : Int32 × (Nat → Int64) := fX1_lay (-r_52) u_51 fV
            (u_54.1, u_54.2))
          else (
            let r_40 : Int64 := (fX1_take L_top fV).1
            let u_39 : Int32 := (fX1_take L_top fV).2
            let r_43 : Int64 := (fX1_take u_39 fV).1
            let u_42 : Int32 := (fX1_take u_39 fV).2
            let r_46 : Int64 := fX1_joined r_43 x3_1 r_40
            let u_48 : Int32 × (Nat → Int64) := fX1_lay r_46 u_42 fV
            (u_48.1, u_48.2))))
      else (
        let r_70 : Int64 := fX1_letter x3_1 C_place C_speed C_posture C_since C_height C_ticks
        let u_72 : Int32 × (Nat → Int64) := fX1_lay r_70 L_top fV
        (u_72.1, u_72.2))))
  else (
    let u_75 : Int32 × (Nat → Int64) := fX1_lay p1.toInt64 L_top fV
    (u_75.1, u_75.2))) : Int32 × (Nat → Int64))) ex3_1.symm).trans ((if_pos c_2).trans ((if_pos c_3).trans ((if_pos c_4).trans ((congrArg (fun (r_25 : Int64) => ((let u_24 : Int32 := (fX1_take L_top fV).2
  let z0_28 : Int32 := if r_25 = 0 then 1 else 0
  let r_31 : Int64 := fX1_truth z0_28
  let u_33 : Int32 × (Nat → Int64) := fX1_lay r_31 u_24 fV
  (u_33.1, u_33.2)) : Int32 × (Nat → Int64))) er_25.symm).trans ((congrArg (fun (u_24 : Int32) => ((let z0_28 : Int32 := if r_25 = 0 then 1 else 0
  let r_31 : Int64 := fX1_truth z0_28
  let u_33 : Int32 × (Nat → Int64) := fX1_lay r_31 u_24 fV
  (u_33.1, u_33.2)) : Int32 × (Nat → Int64))) eu_24.symm).trans ((congrArg (fun (z0_28 : Int32) => ((let r_31 : Int64 := fX1_truth z0_28
  let u_33 : Int32 × (Nat → Int64) := fX1_lay r_31 u_24 fV
  (u_33.1, u_33.2)) : Int32 × (Nat → Int64))) ez0_28.symm).trans ((congrArg (fun (r_31 : Int64) => ((let u_33 : Int32 × (Nat → Int64) := fX1_lay r_31 u_24 fV
  (u_33.1, u_33.2)) : Int32 × (Nat → Int64))) er_31.symm).trans ((congrArg (fun (u_33 : Int32 × (Nat → Int64)) => (((u_33.1, u_33.2)) : Int32 × (Nat → Int64))) eu_33.symm)))))))))).symm
          exact kk_ev hx hb hr hlocks hK hq [1, 2, 0] (u_33.1, u_33.2) rfl (by decide) dX1_work_112 hf
        · skip
          refine kk_lc_ne (tgt := 60) hx hb dX1_work_52 dX1_work_53 (by decide) (fun c_27 => ?_) (fun c_27 => ?_)
          · skip
            refine lv_iconst (v := 0) hx hb dX1_work_60 (by decide) ?_
            exact J_29 0 _ _ _ ⟨(if_neg c_27).symm, lv_sub hl [0, 1, 2, 3] rfl, hq⟩
          · skip
            refine lv_iconst (v := 1) hx hb dX1_work_56 (by decide) ?_
            refine lv_goto (tgt := 61) hx hb dX1_work_57 (by decide) ?_
            exact J_29 1 _ _ _ ⟨(if_pos c_27).symm, lv_sub hl [0, 1, 2, 3] rfl, hq⟩
    · skip
      refine lv_iload_n hx hb dX1_work_22 rfl (lv_at hl 0 rfl) ?_
      refine lv_bipush (v := 122) hx hb dX1_work_23 (by decide) ?_
      refine lv_icmp_gt (tgt := 40) hx hb dX1_work_25 (by decide) (fun c_36 => ?_) (fun c_36 => ?_)
      · skip
        refine lv_iload_n hx hb dX1_work_40 rfl (lv_at hl 0 rfl) ?_
        refine lv_bipush (v := 33) hx hb dX1_work_41 (by decide) ?_
        refine lv_icmp_ne (tgt := 70) hx hb dX1_work_43 (by decide) (fun c_37 => ?_) (fun c_37 => ?_)
        · skip
          refine lv_iload_n hx hb dX1_work_70 rfl (lv_at hl 0 rfl) ?_
          refine lv_bipush (v := 126) hx hb dX1_work_71 (by decide) ?_
          refine lv_icmp_ne (tgt := 88) hx hb dX1_work_73 (by decide) (fun c_38 => ?_) (fun c_38 => ?_)
          · skip
            refine lv_aload_n hx hb dX1_work_88 rfl (lv_at hl 1 rfl) ?_
            refine kk_Vl (As := []) (rest := []) (wr := [(aC, .inr (0, [.long C_place, .long C_speed, .int C_posture, .int C_since, .int C_height, .int C_ticks, .int C_way, .int C_strength, .int C_drops, .int C_greatestDrop, .long C_otherPlace, .long C_otherSpeed]))]) ⟨hx, hb, hml, hown, hts⟩ (c_X1_take l G aL aV rL_parts cV L_count L_fault L_top fV (by assumption)) (kk_cwV 0 hts hsb wd_448 wd_449 wd_450 wd_21 wd_451 rfl rfl hd_X1_take ⟨Nat.le_of_ble_eq_true rfl, Nat.le_of_ble_eq_true rfl⟩) hA hK hq [0, 1] [2] [0] rfl rfl rfl (by decide) (by decide) (by decide) 0 1 rfl rfl rfl rfl hl.1 rfl (Nat.le_of_ble_eq_true rfl) dX1_work_89 ⟨Nat.zero_le _, Nat.zero_le _⟩ (fun r_40 u_39 H locs h_41 hq => ?_)
            obtain ⟨er_40, eu_39⟩ := h_41
            have hq : kAt G A s [(aC, .inr (0, [.long C_place, .long C_speed, .int C_posture, .int C_since, .int C_height, .int C_ticks, .int C_way, .int C_strength, .int C_drops, .int C_greatestDrop, .long C_otherPlace, .long C_otherSpeed])), (aL, .inr (1, [.ref rL_parts, .int L_count, .int L_fault, .ref aV, .int u_39])), (aV, .inl (cV, 60, .inr (.inl fV)))] H locs := hq
            have au_39 : 0 ≤ u_39.toInt := by rw [eu_39]; exact (take_top (by assumption) (by assumption)).1
            have bu_39 : u_39.toInt ≤ 60 := by rw [eu_39]; exact (take_top (by assumption) (by assumption)).2
            refine lv_lstore (lv' := [(4, .long r_40), (3, .int x3_1), (0, .ref aL), (1, .int p1), (2, .ref aC)]) hx hb dX1_work_92 hl (by decide) rfl (fun ls hl => ?_)
            refine lv_aload_n hx hb dX1_work_94 rfl (lv_at hl 2 rfl) ?_
            refine kk_Vl (As := []) (rest := []) (wr := [(aC, .inr (0, [.long C_place, .long C_speed, .int C_posture, .int C_since, .int C_height, .int C_ticks, .int C_way, .int C_strength, .int C_drops, .int C_greatestDrop, .long C_otherPlace, .long C_otherSpeed]))]) ⟨hx, hb, hml, hown, hts⟩ (c_X1_take l G aL aV rL_parts cV L_count L_fault u_39 fV (by assumption)) (kk_cwV 0 hts hsb wd_448 wd_449 wd_450 wd_21 wd_451 rfl rfl hd_X1_take ⟨Nat.le_of_ble_eq_true rfl, Nat.le_of_ble_eq_true rfl⟩) hA hK hq [1, 2] [0] [0] rfl rfl rfl (by decide) (by decide) (by decide) 0 1 rfl rfl rfl rfl hl.1 rfl (Nat.le_of_ble_eq_true rfl) dX1_work_95 ⟨Nat.zero_le _, Nat.zero_le _⟩ (fun r_43 u_42 H locs h_44 hq => ?_)
            obtain ⟨er_43, eu_42⟩ := h_44
            have hq : kAt G A s [(aC, .inr (0, [.long C_place, .long C_speed, .int C_posture, .int C_since, .int C_height, .int C_ticks, .int C_way, .int C_strength, .int C_drops, .int C_greatestDrop, .long C_otherPlace, .long C_otherSpeed])), (aL, .inr (1, [.ref rL_parts, .int L_count, .int L_fault, .ref aV, .int u_42])), (aV, .inl (cV, 60, .inr (.inl fV)))] H locs := hq
            have au_42 : 0 ≤ u_42.toInt := by rw [eu_42]; exact (take_top (by assumption) (by assumption)).1
            have bu_42 : u_42.toInt ≤ 60 := by rw [eu_42]; exact (take_top (by assumption) (by assumption)).2
            refine lv_lstore (lv' := [(6, .long r_43), (4, .long r_40), (3, .int x3_1), (0, .ref aL), (1, .int p1), (2, .ref aC)]) hx hb dX1_work_98 hl (by decide) rfl (fun ls hl => ?_)
            refine lv_aload_n hx hb dX1_work_100 rfl (lv_at hl 3 rfl) ?_
            refine lv_lload hx hb dX1_work_101 (lv_at hl 0 rfl) ?_
            refine lv_iload_n hx hb dX1_work_103 rfl (lv_at hl 2 rfl) ?_
            refine lv_lload hx hb dX1_work_104 (lv_at hl 1 rfl) ?_
            refine kk_Sl (As := [.long r_43, .int x3_1, .long r_40]) (rest := [.ref aL]) (wr := [(aC, .inr (0, [.long C_place, .long C_speed, .int C_posture, .int C_since, .int C_height, .int C_ticks, .int C_way, .int C_strength, .int C_drops, .int C_greatestDrop, .long C_otherPlace, .long C_otherSpeed])), (aL, .inr (1, [.ref rL_parts, .int L_count, .int L_fault, .ref aV, .int u_42])), (aV, .inl (cV, 60, .inr (.inl fV)))]) ⟨hx, hb, hml, hown, hts⟩ (c_X1_joined l G r_43 x3_1 r_40) (kk_cwS 3 hts hsb wd_455 wd_456 wd_21 wd_457 rfl rfl hd_X1_joined ⟨Nat.le_of_ble_eq_true rfl, Nat.le_of_ble_eq_true rfl⟩) hA hK hq [] [0, 1, 2] [] rfl rfl rfl (by decide) (by decide) (by decide) rfl hl.1 rfl (Nat.le_of_ble_eq_true rfl) dX1_work_106 ⟨Nat.zero_le _, Nat.zero_le _⟩ (fun r_46 u_45 H locs h_47 hq => ?_)
            have er_46 := h_47
            have hq : kAt G A s [(aC, .inr (0, [.long C_place, .long C_speed, .int C_posture, .int C_since, .int C_height, .int C_ticks, .int C_way, .int C_strength, .int C_drops, .int C_greatestDrop, .long C_otherPlace, .long C_otherSpeed])), (aL, .inr (1, [.ref rL_parts, .int L_count, .int L_fault, .ref aV, .int u_42])), (aV, .inl (cV, 60, .inr (.inl fV)))] H locs := hq
            refine kk_Vv (As := [.long r_46]) (rest := []) (wr := [(aC, .inr (0, [.long C_place, .long C_speed, .int C_posture, .int C_since, .int C_height, .int C_ticks, .int C_way, .int C_strength, .int C_drops, .int C_greatestDrop, .long C_otherPlace, .long C_otherSpeed]))]) ⟨hx, hb, hml, hown, hts⟩ (c_X1_lay l G aL aV rL_parts cV r_46 L_count L_fault u_42 fV (by assumption)) (kk_cwV 1 hts hsb wd_436 wd_437 wd_438 wd_21 wd_439 rfl rfl hd_X1_lay ⟨Nat.le_of_ble_eq_true rfl, Nat.le_of_ble_eq_true rfl⟩) hA hK hq [1, 2] [0] [0] rfl rfl rfl (by decide) (by decide) (by decide) 0 1 rfl rfl rfl rfl hl.1 rfl (Nat.le_of_ble_eq_true rfl) dX1_work_109 ⟨Nat.zero_le _, Nat.zero_le _⟩ (fun u_48 H locs h_50 hq => ?_)
            have eu_48 := h_50
            have hq : kAt G A s [(aC, .inr (0, [.long C_place, .long C_speed, .int C_posture, .int C_since, .int C_height, .int C_ticks, .int C_way, .int C_strength, .int C_drops, .int C_greatestDrop, .long C_otherPlace, .long C_otherSpeed])), (aL, .inr (1, [.ref rL_parts, .int L_count, .int L_fault, .ref aV, .int u_48.1])), (aV, .inl (cV, 60, .inr (.inl u_48.2)))] H locs := hq
            have hf : ((u_48.1, u_48.2) : Int32 × (Nat → Int64)) = fX1_work p1 L_top fV C_place C_speed C_posture C_since C_height C_ticks := by
              exact ((congrArg (fun (x3_1 : Int32) => ((if 0 < x3_1 then (
    if x3_1 < 97 then (
      if x3_1 = 33 then (
        let r_25 : Int64 := (fX1_take L_top fV).1
        let u_24 : Int32 := (fX1_take L_top fV).2
        let z0_28 : Int32 := if r_25 = 0 then 1 else 0
        let r_31 : Int64 := fX1_truth z0_28
        let u_33 : Int32 × (Nat → Int64) := fX1_lay r_31 u_24 fV
        (u_33.1, u_33.2))
      else (
        if x3_1 = 126 then (
          let r_19 : Int64 := (fX1_take L_top fV).1
          let u_18 : Int32 := (fX1_take L_top fV).2
          let u_21 : Int32 × (Nat → Int64) := fX1_lay (-r_19) u_18 fV
          (u_21.1, u_21.2))
        else (
          let r_7 : Int64 := (fX1_take L_top fV).1
          let u_6 : Int32 := (fX1_take L_top fV).2
          let r_10 : Int64 := (fX1_take u_6 fV).1
          let u_9 : Int32 := (fX1_take u_6 fV).2
          let r_13 : Int64 := fX1_joined r_10 x3_1 r_7
          let u_15 : Int32 × (Nat → Int64) := fX1_lay r_13 u_9 fV
          (u_15.1, u_15.2))))
    else (
      if 122 < x3_1 then (
        if x3_1 = 33 then (
          let r_58 : Int64 := (fX1_take L_top fV).1
          let u_57 : Int32 := (fX1_take L_top fV).2
          let z0_61 : Int32 := if r_58 = 0 then 1 else 0
          let r_64 : Int64 := fX1_truth z0_61
          let u_66 : Int32 × (Nat → Int64) := fX1_lay r_64 u_57 fV
          (u_66.1, u_66.2))
        else (
          if x3_1 = 126 then (
            let r_52 : Int64 := (fX1_take L_top fV).1
            let u_51 : Int32 := (fX1_take L_top fV).2
            let u_54 : Int32 × (Nat → Int64) := fX1_lay (-r_52) u_51 fV
            (u_54.1, u_54.2))
          else (
            let r_40 : Int64 := (fX1_take L_top fV).1
            let u_39 : Int32 := (fX1_take L_top fV).2
            let r_43 : Int64 := (fX1_take u_39 fV).1
            let u_42 : Int32 := (fX1_take u_39 fV).2
            let r_46 : Int64 := fX1_joined r_43 x3_1 r_40
            let u_48 : Int32 × (Nat → Int64) := fX1_lay r_46 u_42 fV
            (u_48.1, u_48.2))))
      else (
        let r_70 : Int64 := fX1_letter x3_1 C_place C_speed C_posture C_since C_height C_ticks
        let u_72 : Int32 × (Nat → Int64) := fX1_lay r_70 L_top fV
        (u_72.1, u_72.2))))
  else (
    let u_75 : Int32 × (Nat → Int64) := fX1_lay p1.toInt64 L_top fV
    (u_75.1, u_75.2))) : Int32 × (Nat → Int64))) ex3_1.symm).trans ((if_pos c_2).trans ((if_neg c_3).trans ((if_pos c_36).trans ((if_neg c_37).trans ((if_neg c_38).trans ((congrArg (fun (r_40 : Int64) => ((let u_39 : Int32 := (fX1_take L_top fV).2
  let r_43 : Int64 := (fX1_take u_39 fV).1
  let u_42 : Int32 := (fX1_take u_39 fV).2
  let r_46 : Int64 := fX1_joined r_43 x3_1 r_40
  let u_48 : Int32 × (Nat → Int64) := fX1_lay r_46 u_42 fV
  (u_48.1, u_48.2)) : Int32 × (Nat → Int64))) er_40.symm).trans ((congrArg (fun (u_39 : Int32) => ((let r_43 : Int64 := (fX1_take u_39 fV).1
  let u_42 : Int32 := (fX1_take u_39 fV).2
  let r_46 : Int64 := fX1_joined r_43 x3_1 r_40
  let u_48 : Int32 × (Nat → Int64) := fX1_lay r_46 u_42 fV
  (u_48.1, u_48.2)) : Int32 × (Nat → Int64))) eu_39.symm).trans ((congrArg (fun (r_43 : Int64) => ((let u_42 : Int32 := (fX1_take u_39 fV).2
  let r_46 : Int64 := fX1_joined r_43 x3_1 r_40
  let u_48 : Int32 × (Nat → Int64) := fX1_lay r_46 u_42 fV
  (u_48.1, u_48.2)) : Int32 × (Nat → Int64))) er_43.symm).trans ((congrArg (fun (u_42 : Int32) => ((let r_46 : Int64 := fX1_joined r_43 x3_1 r_40
  let u_48 : Int32 × (Nat → Int64) := fX1_lay r_46 u_42 fV
  (u_48.1, u_48.2)) : Int32 × (Nat → Int64))) eu_42.symm).trans ((congrArg (fun (r_46 : Int64) => ((let u_48 : Int32 × (Nat → Int64) := fX1_lay r_46 u_42 fV
  (u_48.1, u_48.2)) : Int32 × (Nat → Int64))) er_46.symm).trans ((congrArg (fun (u_48 : Int32 × (Nat → Int64)) => (((u_48.1, u_48.2)) : Int32 × (Nat → Int64))) eu_48.symm))))))))))))).symm
            exact kk_ev hx hb hr hlocks hK hq [1, 2, 0] (u_48.1, u_48.2) rfl (by decide) dX1_work_112 hf
          · skip
            refine lv_aload_n hx hb dX1_work_76 rfl (lv_at hl 1 rfl) ?_
            refine lv_aload_n hx hb dX1_work_77 rfl (lv_at hl 1 rfl) ?_
            refine kk_Vl (As := []) (rest := [.ref aL]) (wr := [(aC, .inr (0, [.long C_place, .long C_speed, .int C_posture, .int C_since, .int C_height, .int C_ticks, .int C_way, .int C_strength, .int C_drops, .int C_greatestDrop, .long C_otherPlace, .long C_otherSpeed]))]) ⟨hx, hb, hml, hown, hts⟩ (c_X1_take l G aL aV rL_parts cV L_count L_fault L_top fV (by assumption)) (kk_cwV 0 hts hsb wd_448 wd_449 wd_450 wd_21 wd_451 rfl rfl hd_X1_take ⟨Nat.le_of_ble_eq_true rfl, Nat.le_of_ble_eq_true rfl⟩) hA hK hq [0, 1] [2] [0] rfl rfl rfl (by decide) (by decide) (by decide) 0 1 rfl rfl rfl rfl hl.1 rfl (Nat.le_of_ble_eq_true rfl) dX1_work_78 ⟨Nat.zero_le _, Nat.zero_le _⟩ (fun r_52 u_51 H locs h_53 hq => ?_)
            obtain ⟨er_52, eu_51⟩ := h_53
            have hq : kAt G A s [(aC, .inr (0, [.long C_place, .long C_speed, .int C_posture, .int C_since, .int C_height, .int C_ticks, .int C_way, .int C_strength, .int C_drops, .int C_greatestDrop, .long C_otherPlace, .long C_otherSpeed])), (aL, .inr (1, [.ref rL_parts, .int L_count, .int L_fault, .ref aV, .int u_51])), (aV, .inl (cV, 60, .inr (.inl fV)))] H locs := hq
            have au_51 : 0 ≤ u_51.toInt := by rw [eu_51]; exact (take_top (by assumption) (by assumption)).1
            have bu_51 : u_51.toInt ≤ 60 := by rw [eu_51]; exact (take_top (by assumption) (by assumption)).2
            refine lv_lneg hx hb dX1_work_81 ?_
            refine kk_Vv (As := [.long (-r_52)]) (rest := []) (wr := [(aC, .inr (0, [.long C_place, .long C_speed, .int C_posture, .int C_since, .int C_height, .int C_ticks, .int C_way, .int C_strength, .int C_drops, .int C_greatestDrop, .long C_otherPlace, .long C_otherSpeed]))]) ⟨hx, hb, hml, hown, hts⟩ (c_X1_lay l G aL aV rL_parts cV (-r_52) L_count L_fault u_51 fV (by assumption)) (kk_cwV 1 hts hsb wd_436 wd_437 wd_438 wd_21 wd_439 rfl rfl hd_X1_lay ⟨Nat.le_of_ble_eq_true rfl, Nat.le_of_ble_eq_true rfl⟩) hA hK hq [1, 2] [0] [0] rfl rfl rfl (by decide) (by decide) (by decide) 0 1 rfl rfl rfl rfl hl.1 rfl (Nat.le_of_ble_eq_true rfl) dX1_work_82 ⟨Nat.zero_le _, Nat.zero_le _⟩ (fun u_54 H locs h_56 hq => ?_)
            have eu_54 := h_56
            have hq : kAt G A s [(aC, .inr (0, [.long C_place, .long C_speed, .int C_posture, .int C_since, .int C_height, .int C_ticks, .int C_way, .int C_strength, .int C_drops, .int C_greatestDrop, .long C_otherPlace, .long C_otherSpeed])), (aL, .inr (1, [.ref rL_parts, .int L_count, .int L_fault, .ref aV, .int u_54.1])), (aV, .inl (cV, 60, .inr (.inl u_54.2)))] H locs := hq
            refine lv_goto (tgt := 112) hx hb dX1_work_85 (by decide) ?_
            have hf : ((u_54.1, u_54.2) : Int32 × (Nat → Int64)) = fX1_work p1 L_top fV C_place C_speed C_posture C_since C_height C_ticks := by
              exact ((congrArg (fun (x3_1 : Int32) => ((if 0 < x3_1 then (
    if x3_1 < 97 then (
      if x3_1 = 33 then (
        let r_25 : Int64 := (fX1_take L_top fV).1
        let u_24 : Int32 := (fX1_take L_top fV).2
        let z0_28 : Int32 := if r_25 = 0 then 1 else 0
        let r_31 : Int64 := fX1_truth z0_28
        let u_33 : Int32 × (Nat → Int64) := fX1_lay r_31 u_24 fV
        (u_33.1, u_33.2))
      else (
        if x3_1 = 126 then (
          let r_19 : Int64 := (fX1_take L_top fV).1
          let u_18 : Int32 := (fX1_take L_top fV).2
          let u_21 : Int32 × (Nat → Int64) := fX1_lay (-r_19) u_18 fV
          (u_21.1, u_21.2))
        else (
          let r_7 : Int64 := (fX1_take L_top fV).1
          let u_6 : Int32 := (fX1_take L_top fV).2
          let r_10 : Int64 := (fX1_take u_6 fV).1
          let u_9 : Int32 := (fX1_take u_6 fV).2
          let r_13 : Int64 := fX1_joined r_10 x3_1 r_7
          let u_15 : Int32 × (Nat → Int64) := fX1_lay r_13 u_9 fV
          (u_15.1, u_15.2))))
    else (
      if 122 < x3_1 then (
        if x3_1 = 33 then (
          let r_58 : Int64 := (fX1_take L_top fV).1
          let u_57 : Int32 := (fX1_take L_top fV).2
          let z0_61 : Int32 := if r_58 = 0 then 1 else 0
          let r_64 : Int64 := fX1_truth z0_61
          let u_66 : Int32 × (Nat → Int64) := fX1_lay r_64 u_57 fV
          (u_66.1, u_66.2))
        else (
          if x3_1 = 126 then (
            let r_52 : Int64 := (fX1_take L_top fV).1
            let u_51 : Int32 := (fX1_take L_top fV).2
            let u_54 : Int32 × (Nat → Int64) := fX1_lay (-r_52) u_51 fV
            (u_54.1, u_54.2))
          else (
            let r_40 : Int64 := (fX1_take L_top fV).1
            let u_39 : Int32 := (fX1_take L_top fV).2
            let r_43 : Int64 := (fX1_take u_39 fV).1
            let u_42 : Int32 := (fX1_take u_39 fV).2
            let r_46 : Int64 := fX1_joined r_43 x3_1 r_40
            let u_48 : Int32 × (Nat → Int64) := fX1_lay r_46 u_42 fV
            (u_48.1, u_48.2))))
      else (
        let r_70 : Int64 := fX1_letter x3_1 C_place C_speed C_posture C_since C_height C_ticks
        let u_72 : Int32 × (Nat → Int64) := fX1_lay r_70 L_top fV
        (u_72.1, u_72.2))))
  else (
    let u_75 : Int32 × (Nat → Int64) := fX1_lay p1.toInt64 L_top fV
    (u_75.1, u_75.2))) : Int32 × (Nat → Int64))) ex3_1.symm).trans ((if_pos c_2).trans ((if_neg c_3).trans ((if_pos c_36).trans ((if_neg c_37).trans ((if_pos c_38).trans ((congrArg (fun (r_52 : Int64) => ((let u_51 : Int32 := (fX1_take L_top fV).2
  let u_54 : Int32 × (Nat → Int64) := fX1_lay (-r_52) u_51 fV
  (u_54.1, u_54.2)) : Int32 × (Nat → Int64))) er_52.symm).trans ((congrArg (fun (u_51 : Int32) => ((let u_54 : Int32 × (Nat → Int64) := fX1_lay (-r_52) u_51 fV
  (u_54.1, u_54.2)) : Int32 × (Nat → Int64))) eu_51.symm).trans ((congrArg (fun (u_54 : Int32 × (Nat → Int64)) => (((u_54.1, u_54.2)) : Int32 × (Nat → Int64))) eu_54.symm)))))))))).symm
            exact kk_ev hx hb hr hlocks hK hq [1, 2, 0] (u_54.1, u_54.2) rfl (by decide) dX1_work_112 hf
        · skip
          refine lv_aload_n hx hb dX1_work_46 rfl (lv_at hl 1 rfl) ?_
          refine lv_aload_n hx hb dX1_work_47 rfl (lv_at hl 1 rfl) ?_
          refine kk_Vl (As := []) (rest := [.ref aL]) (wr := [(aC, .inr (0, [.long C_place, .long C_speed, .int C_posture, .int C_since, .int C_height, .int C_ticks, .int C_way, .int C_strength, .int C_drops, .int C_greatestDrop, .long C_otherPlace, .long C_otherSpeed]))]) ⟨hx, hb, hml, hown, hts⟩ (c_X1_take l G aL aV rL_parts cV L_count L_fault L_top fV (by assumption)) (kk_cwV 0 hts hsb wd_448 wd_449 wd_450 wd_21 wd_451 rfl rfl hd_X1_take ⟨Nat.le_of_ble_eq_true rfl, Nat.le_of_ble_eq_true rfl⟩) hA hK hq [0, 1] [2] [0] rfl rfl rfl (by decide) (by decide) (by decide) 0 1 rfl rfl rfl rfl hl.1 rfl (Nat.le_of_ble_eq_true rfl) dX1_work_48 ⟨Nat.zero_le _, Nat.zero_le _⟩ (fun r_58 u_57 H locs h_59 hq => ?_)
          obtain ⟨er_58, eu_57⟩ := h_59
          have hq : kAt G A s [(aC, .inr (0, [.long C_place, .long C_speed, .int C_posture, .int C_since, .int C_height, .int C_ticks, .int C_way, .int C_strength, .int C_drops, .int C_greatestDrop, .long C_otherPlace, .long C_otherSpeed])), (aL, .inr (1, [.ref rL_parts, .int L_count, .int L_fault, .ref aV, .int u_57])), (aV, .inl (cV, 60, .inr (.inl fV)))] H locs := hq
          have au_57 : 0 ≤ u_57.toInt := by rw [eu_57]; exact (take_top (by assumption) (by assumption)).1
          have bu_57 : u_57.toInt ≤ 60 := by rw [eu_57]; exact (take_top (by assumption) (by assumption)).2
          refine lv_lconst (v := 0) hx hb dX1_work_51 (by decide) ?_
          refine kk_join1 (fun (z0_61 : Int32) (H : Heap) (locs : List Loc) (ls : Array Slot) => z0_61 = (if r_58 = 0 then 1 else 0) ∧ lv_has ls 8 [(3, .int x3_1), (0, .ref aL), (1, .int p1), (2, .ref aC)] ∧ kAt G A s [(aC, .inr (0, [.long C_place, .long C_speed, .int C_posture, .int C_since, .int C_height, .int C_ticks, .int C_way, .int C_strength, .int C_drops, .int C_greatestDrop, .long C_otherPlace, .long C_otherSpeed])), (aL, .inr (1, [.ref rL_parts, .int L_count, .int L_fault, .ref aV, .int u_57])), (aV, .inl (cV, 60, .inr (.inl fV)))] H locs) 61 (fun z0_61 => [.int z0_61, .ref aL]) (fun z0_61 H locs ls hv => ?_) (fun J_62 => ?_)
          · skip
            obtain ⟨ez0_61, hl, hq⟩ := hv
            refine kk_Sl (As := [.int z0_61]) (rest := [.ref aL]) (wr := [(aC, .inr (0, [.long C_place, .long C_speed, .int C_posture, .int C_since, .int C_height, .int C_ticks, .int C_way, .int C_strength, .int C_drops, .int C_greatestDrop, .long C_otherPlace, .long C_otherSpeed])), (aL, .inr (1, [.ref rL_parts, .int L_count, .int L_fault, .ref aV, .int u_57])), (aV, .inl (cV, 60, .inr (.inl fV)))]) ⟨hx, hb, hml, hown, hts⟩ (c_X1_truth l G z0_61) (kk_cwS 1 hts hsb wd_452 wd_453 wd_21 wd_454 rfl rfl hd_X1_truth ⟨Nat.le_of_ble_eq_true rfl, Nat.le_of_ble_eq_true rfl⟩) hA hK hq [] [0, 1, 2] [] rfl rfl rfl (by decide) (by decide) (by decide) rfl hl.1 rfl (Nat.le_of_ble_eq_true rfl) dX1_work_61 ⟨Nat.zero_le _, Nat.zero_le _⟩ (fun r_64 u_63 H locs h_65 hq => ?_)
            have er_64 := h_65
            have hq : kAt G A s [(aC, .inr (0, [.long C_place, .long C_speed, .int C_posture, .int C_since, .int C_height, .int C_ticks, .int C_way, .int C_strength, .int C_drops, .int C_greatestDrop, .long C_otherPlace, .long C_otherSpeed])), (aL, .inr (1, [.ref rL_parts, .int L_count, .int L_fault, .ref aV, .int u_57])), (aV, .inl (cV, 60, .inr (.inl fV)))] H locs := hq
            refine kk_Vv (As := [.long r_64]) (rest := []) (wr := [(aC, .inr (0, [.long C_place, .long C_speed, .int C_posture, .int C_since, .int C_height, .int C_ticks, .int C_way, .int C_strength, .int C_drops, .int C_greatestDrop, .long C_otherPlace, .long C_otherSpeed]))]) ⟨hx, hb, hml, hown, hts⟩ (c_X1_lay l G aL aV rL_parts cV r_64 L_count L_fault u_57 fV (by assumption)) (kk_cwV 1 hts hsb wd_436 wd_437 wd_438 wd_21 wd_439 rfl rfl hd_X1_lay ⟨Nat.le_of_ble_eq_true rfl, Nat.le_of_ble_eq_true rfl⟩) hA hK hq [1, 2] [0] [0] rfl rfl rfl (by decide) (by decide) (by decide) 0 1 rfl rfl rfl rfl hl.1 rfl (Nat.le_of_ble_eq_true rfl) dX1_work_64 ⟨Nat.zero_le _, Nat.zero_le _⟩ (fun u_66 H locs h_68 hq => ?_)
            have eu_66 := h_68
            have hq : kAt G A s [(aC, .inr (0, [.long C_place, .long C_speed, .int C_posture, .int C_since, .int C_height, .int C_ticks, .int C_way, .int C_strength, .int C_drops, .int C_greatestDrop, .long C_otherPlace, .long C_otherSpeed])), (aL, .inr (1, [.ref rL_parts, .int L_count, .int L_fault, .ref aV, .int u_66.1])), (aV, .inl (cV, 60, .inr (.inl u_66.2)))] H locs := hq
            refine lv_goto (tgt := 112) hx hb dX1_work_67 (by decide) ?_
            have hf : ((u_66.1, u_66.2) : Int32 × (Nat → Int64)) = fX1_work p1 L_top fV C_place C_speed C_posture C_since C_height C_ticks := by
              exact ((congrArg (fun (x3_1 : Int32) => ((if 0 < x3_1 then (
    if x3_1 < 97 then (
      if x3_1 = 33 then (
        let r_25 : Int64 := (fX1_take L_top fV).1
        let u_24 : Int32 := (fX1_take L_top fV).2
        let z0_28 : Int32 := if r_25 = 0 then 1 else 0
        let r_31 : Int64 := fX1_truth z0_28
        let u_33 : Int32 × (Nat → Int64) := fX1_lay r_31 u_24 fV
        (u_33.1, u_33.2))
      else (
        if x3_1 = 126 then (
          let r_19 : Int64 := (fX1_take L_top fV).1
          let u_18 : Int32 := (fX1_take L_top fV).2
          let u_21 : Int32 × (Nat → Int64) := fX1_lay (-r_19) u_18 fV
          (u_21.1, u_21.2))
        else (
          let r_7 : Int64 := (fX1_take L_top fV).1
          let u_6 : Int32 := (fX1_take L_top fV).2
          let r_10 : Int64 := (fX1_take u_6 fV).1
          let u_9 : Int32 := (fX1_take u_6 fV).2
          let r_13 : Int64 := fX1_joined r_10 x3_1 r_7
          let u_15 : Int32 × (Nat → Int64) := fX1_lay r_13 u_9 fV
          (u_15.1, u_15.2))))
    else (
      if 122 < x3_1 then (
        if x3_1 = 33 then (
          let r_58 : Int64 := (fX1_take L_top fV).1
          let u_57 : Int32 := (fX1_take L_top fV).2
          let z0_61 : Int32 := if r_58 = 0 then 1 else 0
          let r_64 : Int64 := fX1_truth z0_61
          let u_66 : Int32 × (Nat → Int64) := fX1_lay r_64 u_57 fV
          (u_66.1, u_66.2))
        else (
          if x3_1 = 126 then (
            let r_52 : Int64 := (fX1_take L_top fV).1
            let u_51 : Int32 := (fX1_take L_top fV).2
            let u_54 : Int32 × (Nat → Int64) := fX1_lay (-r_52) u_51 fV
            (u_54.1, u_54.2))
          else (
            let r_40 : Int64 := (fX1_take L_top fV).1
            let u_39 : Int32 := (fX1_take L_top fV).2
            let r_43 : Int64 := (fX1_take u_39 fV).1
            let u_42 : Int32 := (fX1_take u_39 fV).2
            let r_46 : Int64 := fX1_joined r_43 x3_1 r_40
            let u_48 : Int32 × (Nat → Int64) := fX1_lay r_46 u_42 fV
            (u_48.1, u_48.2))))
      else (
        let r_70 : Int64 := fX1_letter x3_1 C_place C_speed C_posture C_since C_height C_ticks
        let u_72 : Int32 × (Nat → Int64) := fX1_lay r_70 L_top fV
        (u_72.1, u_72.2))))
  else (
    let u_75 : Int32 × (Nat → Int64) := fX1_lay p1.toInt64 L_top fV
    (u_75.1, u_75.2))) : Int32 × (Nat → Int64))) ex3_1.symm).trans ((if_pos c_2).trans ((if_neg c_3).trans ((if_pos c_36).trans ((if_pos c_37).trans ((congrArg (fun (r_58 : Int64) => ((let u_57 : Int32 := (fX1_take L_top fV).2
  let z0_61 : Int32 := if r_58 = 0 then 1 else 0
  let r_64 : Int64 := fX1_truth z0_61
  let u_66 : Int32 × (Nat → Int64) := fX1_lay r_64 u_57 fV
  (u_66.1, u_66.2)) : Int32 × (Nat → Int64))) er_58.symm).trans ((congrArg (fun (u_57 : Int32) => ((let z0_61 : Int32 := if r_58 = 0 then 1 else 0
  let r_64 : Int64 := fX1_truth z0_61
  let u_66 : Int32 × (Nat → Int64) := fX1_lay r_64 u_57 fV
  (u_66.1, u_66.2)) : Int32 × (Nat → Int64))) eu_57.symm).trans ((congrArg (fun (z0_61 : Int32) => ((let r_64 : Int64 := fX1_truth z0_61
  let u_66 : Int32 × (Nat → Int64) := fX1_lay r_64 u_57 fV
  (u_66.1, u_66.2)) : Int32 × (Nat → Int64))) ez0_61.symm).trans ((congrArg (fun (r_64 : Int64) => ((let u_66 : Int32 × (Nat → Int64) := fX1_lay r_64 u_57 fV
  (u_66.1, u_66.2)) : Int32 × (Nat → Int64))) er_64.symm).trans ((congrArg (fun (u_66 : Int32 × (Nat → Int64)) => (((u_66.1, u_66.2)) : Int32 × (Nat → Int64))) eu_66.symm))))))))))).symm
            exact kk_ev hx hb hr hlocks hK hq [1, 2, 0] (u_66.1, u_66.2) rfl (by decide) dX1_work_112 hf
          · skip
            refine kk_lc_ne (tgt := 60) hx hb dX1_work_52 dX1_work_53 (by decide) (fun c_60 => ?_) (fun c_60 => ?_)
            · skip
              refine lv_iconst (v := 0) hx hb dX1_work_60 (by decide) ?_
              exact J_62 0 _ _ _ ⟨(if_neg c_60).symm, lv_sub hl [0, 1, 2, 3] rfl, hq⟩
            · skip
              refine lv_iconst (v := 1) hx hb dX1_work_56 (by decide) ?_
              refine lv_goto (tgt := 61) hx hb dX1_work_57 (by decide) ?_
              exact J_62 1 _ _ _ ⟨(if_pos c_60).symm, lv_sub hl [0, 1, 2, 3] rfl, hq⟩
      · skip
        refine lv_aload_n hx hb dX1_work_28 rfl (lv_at hl 1 rfl) ?_
        refine lv_iload_n hx hb dX1_work_29 rfl (lv_at hl 0 rfl) ?_
        refine lv_aload_n hx hb dX1_work_30 rfl (lv_at hl 3 rfl) ?_
        refine kk_Sl (As := [.int x3_1, .ref aC]) (rest := [.ref aL]) (wr := [(aL, .inr (1, [.ref rL_parts, .int L_count, .int L_fault, .ref aV, .int L_top])), (aV, .inl (cV, 60, .inr (.inl fV)))]) ⟨hx, hb, hml, hown, hts⟩ (c_X1_letter l G aC x3_1 C_place C_speed C_posture C_since C_height C_ticks C_way C_strength C_drops C_greatestDrop C_otherPlace C_otherSpeed) (kk_cwS 2 hts hsb wd_440 wd_441 wd_21 wd_442 rfl rfl hd_X1_letter ⟨Nat.le_of_ble_eq_true rfl, Nat.le_of_ble_eq_true rfl⟩) hA hK hq [2] [0, 1] [] rfl rfl rfl (by decide) (by decide) (by decide) rfl hl.1 rfl (Nat.le_of_ble_eq_true rfl) dX1_work_31 ⟨Nat.zero_le _, Nat.zero_le _⟩ (fun r_70 u_69 H locs h_71 hq => ?_)
        have er_70 := h_71
        have hq : kAt G A s [(aL, .inr (1, [.ref rL_parts, .int L_count, .int L_fault, .ref aV, .int L_top])), (aV, .inl (cV, 60, .inr (.inl fV))), (aC, .inr (0, [.long C_place, .long C_speed, .int C_posture, .int C_since, .int C_height, .int C_ticks, .int C_way, .int C_strength, .int C_drops, .int C_greatestDrop, .long C_otherPlace, .long C_otherSpeed]))] H locs := hq
        refine kk_Vv (As := [.long r_70]) (rest := []) (wr := [(aC, .inr (0, [.long C_place, .long C_speed, .int C_posture, .int C_since, .int C_height, .int C_ticks, .int C_way, .int C_strength, .int C_drops, .int C_greatestDrop, .long C_otherPlace, .long C_otherSpeed]))]) ⟨hx, hb, hml, hown, hts⟩ (c_X1_lay l G aL aV rL_parts cV r_70 L_count L_fault L_top fV (by assumption)) (kk_cwV 1 hts hsb wd_436 wd_437 wd_438 wd_21 wd_439 rfl rfl hd_X1_lay ⟨Nat.le_of_ble_eq_true rfl, Nat.le_of_ble_eq_true rfl⟩) hA hK hq [0, 1] [2] [0] rfl rfl rfl (by decide) (by decide) (by decide) 0 1 rfl rfl rfl rfl hl.1 rfl (Nat.le_of_ble_eq_true rfl) dX1_work_34 ⟨Nat.zero_le _, Nat.zero_le _⟩ (fun u_72 H locs h_74 hq => ?_)
        have eu_72 := h_74
        have hq : kAt G A s [(aC, .inr (0, [.long C_place, .long C_speed, .int C_posture, .int C_since, .int C_height, .int C_ticks, .int C_way, .int C_strength, .int C_drops, .int C_greatestDrop, .long C_otherPlace, .long C_otherSpeed])), (aL, .inr (1, [.ref rL_parts, .int L_count, .int L_fault, .ref aV, .int u_72.1])), (aV, .inl (cV, 60, .inr (.inl u_72.2)))] H locs := hq
        refine lv_goto (tgt := 112) hx hb dX1_work_37 (by decide) ?_
        have hf : ((u_72.1, u_72.2) : Int32 × (Nat → Int64)) = fX1_work p1 L_top fV C_place C_speed C_posture C_since C_height C_ticks := by
          exact ((congrArg (fun (x3_1 : Int32) => ((if 0 < x3_1 then (
    if x3_1 < 97 then (
      if x3_1 = 33 then (
        let r_25 : Int64 := (fX1_take L_top fV).1
        let u_24 : Int32 := (fX1_take L_top fV).2
        let z0_28 : Int32 := if r_25 = 0 then 1 else 0
        let r_31 : Int64 := fX1_truth z0_28
        let u_33 : Int32 × (Nat → Int64) := fX1_lay r_31 u_24 fV
        (u_33.1, u_33.2))
      else (
        if x3_1 = 126 then (
          let r_19 : Int64 := (fX1_take L_top fV).1
          let u_18 : Int32 := (fX1_take L_top fV).2
          let u_21 : Int32 × (Nat → Int64) := fX1_lay (-r_19) u_18 fV
          (u_21.1, u_21.2))
        else (
          let r_7 : Int64 := (fX1_take L_top fV).1
          let u_6 : Int32 := (fX1_take L_top fV).2
          let r_10 : Int64 := (fX1_take u_6 fV).1
          let u_9 : Int32 := (fX1_take u_6 fV).2
          let r_13 : Int64 := fX1_joined r_10 x3_1 r_7
          let u_15 : Int32 × (Nat → Int64) := fX1_lay r_13 u_9 fV
          (u_15.1, u_15.2))))
    else (
      if 122 < x3_1 then (
        if x3_1 = 33 then (
          let r_58 : Int64 := (fX1_take L_top fV).1
          let u_57 : Int32 := (fX1_take L_top fV).2
          let z0_61 : Int32 := if r_58 = 0 then 1 else 0
          let r_64 : Int64 := fX1_truth z0_61
          let u_66 : Int32 × (Nat → Int64) := fX1_lay r_64 u_57 fV
          (u_66.1, u_66.2))
        else (
          if x3_1 = 126 then (
            let r_52 : Int64 := (fX1_take L_top fV).1
            let u_51 : Int32 := (fX1_take L_top fV).2
            let u_54 : Int32 × (Nat → Int64) := fX1_lay (-r_52) u_51 fV
            (u_54.1, u_54.2))
          else (
            let r_40 : Int64 := (fX1_take L_top fV).1
            let u_39 : Int32 := (fX1_take L_top fV).2
            let r_43 : Int64 := (fX1_take u_39 fV).1
            let u_42 : Int32 := (fX1_take u_39 fV).2
            let r_46 : Int64 := fX1_joined r_43 x3_1 r_40
            let u_48 : Int32 × (Nat → Int64) := fX1_lay r_46 u_42 fV
            (u_48.1, u_48.2))))
      else (
        let r_70 : Int64 := fX1_letter x3_1 C_place C_speed C_posture C_since C_height C_ticks
        let u_72 : Int32 × (Nat → Int64) := fX1_lay r_70 L_top fV
        (u_72.1, u_72.2))))
  else (
    let u_75 : Int32 × (Nat → Int64) := fX1_lay p1.toInt64 L_top fV
    (u_75.1, u_75.2))) : Int32 × (Nat → Int64))) ex3_1.symm).trans ((if_pos c_2).trans ((if_neg c_3).trans ((if_neg c_36).trans ((congrArg (fun (r_70 : Int64) => ((let u_72 : Int32 × (Nat → Int64) := fX1_lay r_70 L_top fV
  (u_72.1, u_72.2)) : Int32 × (Nat → Int64))) er_70.symm).trans ((congrArg (fun (u_72 : Int32 × (Nat → Int64)) => (((u_72.1, u_72.2)) : Int32 × (Nat → Int64))) eu_72.symm))))))).symm
        exact kk_ev hx hb hr hlocks hK hq [1, 2, 0] (u_72.1, u_72.2) rfl (by decide) dX1_work_112 hf
  · skip
    refine lv_aload_n hx hb dX1_work_7 rfl (lv_at hl 1 rfl) ?_
    refine lv_iload_n hx hb dX1_work_8 rfl (lv_at hl 2 rfl) ?_
    refine lv_i2l hx hb dX1_work_9 rfl ?_
    refine kk_Vv (As := [.long p1.toInt64]) (rest := []) (wr := [(aC, .inr (0, [.long C_place, .long C_speed, .int C_posture, .int C_since, .int C_height, .int C_ticks, .int C_way, .int C_strength, .int C_drops, .int C_greatestDrop, .long C_otherPlace, .long C_otherSpeed]))]) ⟨hx, hb, hml, hown, hts⟩ (c_X1_lay l G aL aV rL_parts cV p1.toInt64 L_count L_fault L_top fV (by assumption)) (kk_cwV 1 hts hsb wd_436 wd_437 wd_438 wd_21 wd_439 rfl rfl hd_X1_lay ⟨Nat.le_of_ble_eq_true rfl, Nat.le_of_ble_eq_true rfl⟩) hA hK hq [0, 1] [2] [0] rfl rfl rfl (by decide) (by decide) (by decide) 0 1 rfl rfl rfl rfl hl.1 rfl (Nat.le_of_ble_eq_true rfl) dX1_work_10 ⟨Nat.zero_le _, Nat.zero_le _⟩ (fun u_75 H locs h_77 hq => ?_)
    have eu_75 := h_77
    have hq : kAt G A s [(aC, .inr (0, [.long C_place, .long C_speed, .int C_posture, .int C_since, .int C_height, .int C_ticks, .int C_way, .int C_strength, .int C_drops, .int C_greatestDrop, .long C_otherPlace, .long C_otherSpeed])), (aL, .inr (1, [.ref rL_parts, .int L_count, .int L_fault, .ref aV, .int u_75.1])), (aV, .inl (cV, 60, .inr (.inl u_75.2)))] H locs := hq
    refine lv_goto (tgt := 112) hx hb dX1_work_13 (by decide) ?_
    have hf : ((u_75.1, u_75.2) : Int32 × (Nat → Int64)) = fX1_work p1 L_top fV C_place C_speed C_posture C_since C_height C_ticks := by
      exact ((congrArg (fun (x3_1 : Int32) => ((if 0 < x3_1 then (
    if x3_1 < 97 then (
      if x3_1 = 33 then (
        let r_25 : Int64 := (fX1_take L_top fV).1
        let u_24 : Int32 := (fX1_take L_top fV).2
        let z0_28 : Int32 := if r_25 = 0 then 1 else 0
        let r_31 : Int64 := fX1_truth z0_28
        let u_33 : Int32 × (Nat → Int64) := fX1_lay r_31 u_24 fV
        (u_33.1, u_33.2))
      else (
        if x3_1 = 126 then (
          let r_19 : Int64 := (fX1_take L_top fV).1
          let u_18 : Int32 := (fX1_take L_top fV).2
          let u_21 : Int32 × (Nat → Int64) := fX1_lay (-r_19) u_18 fV
          (u_21.1, u_21.2))
        else (
          let r_7 : Int64 := (fX1_take L_top fV).1
          let u_6 : Int32 := (fX1_take L_top fV).2
          let r_10 : Int64 := (fX1_take u_6 fV).1
          let u_9 : Int32 := (fX1_take u_6 fV).2
          let r_13 : Int64 := fX1_joined r_10 x3_1 r_7
          let u_15 : Int32 × (Nat → Int64) := fX1_lay r_13 u_9 fV
          (u_15.1, u_15.2))))
    else (
      if 122 < x3_1 then (
        if x3_1 = 33 then (
          let r_58 : Int64 := (fX1_take L_top fV).1
          let u_57 : Int32 := (fX1_take L_top fV).2
          let z0_61 : Int32 := if r_58 = 0 then 1 else 0
          let r_64 : Int64 := fX1_truth z0_61
          let u_66 : Int32 × (Nat → Int64) := fX1_lay r_64 u_57 fV
          (u_66.1, u_66.2))
        else (
          if x3_1 = 126 then (
            let r_52 : Int64 := (fX1_take L_top fV).1
            let u_51 : Int32 := (fX1_take L_top fV).2
            let u_54 : Int32 × (Nat → Int64) := fX1_lay (-r_52) u_51 fV
            (u_54.1, u_54.2))
          else (
            let r_40 : Int64 := (fX1_take L_top fV).1
            let u_39 : Int32 := (fX1_take L_top fV).2
            let r_43 : Int64 := (fX1_take u_39 fV).1
            let u_42 : Int32 := (fX1_take u_39 fV).2
            let r_46 : Int64 := fX1_joined r_43 x3_1 r_40
            let u_48 : Int32 × (Nat → Int64) := fX1_lay r_46 u_42 fV
            (u_48.1, u_48.2))))
      else (
        let r_70 : Int64 := fX1_letter x3_1 C_place C_speed C_posture C_since C_height C_ticks
        let u_72 : Int32 × (Nat → Int64) := fX1_lay r_70 L_top fV
        (u_72.1, u_72.2))))
  else (
    let u_75 : Int32 × (Nat → Int64) := fX1_lay p1.toInt64 L_top fV
    (u_75.1, u_75.2))) : Int32 × (Nat → Int64))) ex3_1.symm).trans ((if_neg c_2).trans ((congrArg (fun (u_75 : Int32 × (Nat → Int64)) => (((u_75.1, u_75.2)) : Int32 × (Nat → Int64))) eu_75.symm)))).symm
    exact kk_ev hx hb hr hlocks hK hq [1, 2, 0] (u_75.1, u_75.2) rfl (by decide) dX1_work_112 hf
theorem work_top {p : Int32} {a v : Int64} {h t u k : Int32} {top : Int32} {vf : Nat → Int64} (h0 : 0 ≤ top.toInt) (h1 : top.toInt ≤ 60) : 0 ≤ (fX1_work p top vf a v h t u k).1.toInt ∧ (fX1_work p top vf a v h t u k).1.toInt ≤ 60 := by
  have k1 := take_top (vf := vf) h0 h1
  have k2 := take_top (vf := vf) k1.1 k1.2
  unfold fX1_work
  dsimp only
  repeat' split
  all_goals first | exact lay_top h0 h1 | exact lay_top k1.1 k1.2 | exact lay_top k2.1 k2.2
theorem hd_X1_work : yX1_work.cls = RX1 ∧ yX1_work.cls ≠ "java/lang/invoke/MethodHandle" ∧ yX1_work.cls ≠ "java/lang/invoke/VarHandle" ∧ (parseMethodDescriptor yX1_work.desc).map (fun d => d.parameters.length) = some 2 := by decide +kernel
def lpX1_valueFor_7 (L_count : Int32) (fP : Nat → Int32) (C_place : Int64) (C_speed : Int64) (C_posture : Int32) (C_since : Int32) (C_height : Int32) (C_ticks : Int32) : Nat → Int32 → Int32 → (Nat → Int64) → Int32 × Int32 × (Nat → Int64)
  | 0, _, _, _ => (0, 0, fun _ => 0)
  | N + 1, i, tp, vf =>
    if L_count ≤ i then (
    (i, tp, vf))
    else (
    let u_2 : Int32 × (Nat → Int64) := fX1_work (fP i.toNatClampNeg) tp vf C_place C_speed C_posture C_since C_height C_ticks
    lpX1_valueFor_7 L_count fP C_place C_speed C_posture C_since C_height C_ticks N (i + 1) u_2.1 u_2.2)

def fX1_valueFor (L_count : Int32) (fP : Nat → Int32) (fV : Nat → Int64) (C_place : Int64) (C_speed : Int64) (C_posture : Int32) (C_since : Int32) (C_height : Int32) (C_ticks : Int32) : Int64 × Int32 × (Nat → Int64) :=
  let z_3 : Int32 × Int32 × (Nat → Int64) := lpX1_valueFor_7 L_count fP C_place C_speed C_posture C_since C_height C_ticks (61) 0 0 fV
  let r_5 : Int64 := (fX1_take z_3.2.1 z_3.2.2).1
  let u_4 : Int32 := (fX1_take z_3.2.1 z_3.2.2).2
  (r_5, u_4, z_3.2.2)

set_option maxHeartbeats 4000000 in
set_option maxRecDepth 100000 in
theorem c_X1_valueFor (l : Launch) (G : va_G) (aL aP aV aC : Nat) (cP cV : ClassId) (L_count : Int32) (L_fault : Int32) (L_top : Int32) (fP : Nat → Int32) (fV : Nat → Int64) (C_place : Int64) (C_speed : Int64) (C_posture : Int32) (C_since : Int32) (C_height : Int32) (C_ticks : Int32) (C_way : Int32) (C_strength : Int32) (C_drops : Int32) (C_greatestDrop : Int32) (C_otherPlace : Int64) (C_otherSpeed : Int64) (hc : L_count.toInt ≤ 60) : kCl l yX1_valueFor (Cond.code yX1_valueFor cX1_valueFor 3 (some .long) :: wsL_law) ({ frames := 3, cells := 0, slots := 0, locals := 71 }) G [(cP, .int), (cV, .long)] [.ref aL, .ref aC] [(aL, .inr (1, [.ref aP, .int L_count, .int L_fault, .ref aV, .int L_top])), (aP, .inl (cP, 60, .inl fP)), (aV, .inl (cV, 60, .inr (.inl fV))), (aC, .inr (0, [.long C_place, .long C_speed, .int C_posture, .int C_since, .int C_height, .int C_ticks, .int C_way, .int C_strength, .int C_drops, .int C_greatestDrop, .long C_otherPlace, .long C_otherSpeed]))] (fun (r : Int64) (u : Int32 × (Nat → Int64)) => r = (fX1_valueFor L_count fP fV C_place C_speed C_posture C_since C_height C_ticks).1 ∧ u = (fX1_valueFor L_count fP fV C_place C_speed C_posture C_since C_height C_ticks).2) (fun (u : Int32 × (Nat → Int64)) => [(aL, .inr (1, [.ref aP, .int L_count, .int L_fault, .ref aV, .int u.1])), (aP, .inl (cP, 60, .inl fP)), (aV, .inl (cV, 60, .inr (.inl u.2))), (aC, .inr (0, [.long C_place, .long C_speed, .int C_posture, .int C_since, .int C_height, .int C_ticks, .int C_way, .int C_strength, .int C_drops, .int C_greatestDrop, .long C_otherPlace, .long C_otherSpeed]))]) := by
  intro sz
  refine Met.ofW (cc := cX1_valueFor) (maxL := 3) (ret := (some .long)) (by decide) rfl ?_
  intro p e s m args below meth c s₁ B hml hv
  obtain ⟨rfl, hv⟩ := hv
  obtain ⟨rfl, hK, hq, hA⟩ := kk_begin hv
  have hx := B.exec
  have hb := B.bytes
  have hr := B.returns
  have hts := atoms_spec (ws := (Cond.code yX1_valueFor cX1_valueFor 3 (some .long) :: wsL_law)) B.pre
  have hown : s.vm.findClass RX1 = some m.cls := findClass_of_methodNamed B.named
  have hlocks := B.notSynchronized
  have hsb : ∀ w ∈ wsL_law, w ∈ (Cond.code yX1_valueFor cX1_valueFor 3 (some .long) :: wsL_law) := fun _ h => List.mem_cons_of_mem _ h
  generalize va_A [(aL, .inr (1, [.ref aP, .int L_count, .int L_fault, .ref aV, .int L_top])), (aP, .inl (cP, 60, .inl fP)), (aV, .inl (cV, 60, .inr (.inl fV))), (aC, .inr (0, [.long C_place, .long C_speed, .int C_posture, .int C_since, .int C_height, .int C_ticks, .int C_way, .int C_strength, .int C_drops, .int C_greatestDrop, .long C_otherPlace, .long C_otherSpeed]))] s.heap.size = A at hq hA ⊢
  have iX1 : ∀ w ∈ u_ws RX1 TX1 5, w ∈ (Cond.code yX1_valueFor cX1_valueFor 3 (some .long) :: wsL_law) := fun w h => hsb w (bin_X1 w h)
  have lk0_ := hts _ (hsb _ wd_103)
  have lk1_ := hts _ (hsb _ wd_99)
  have lk2_ := hts _ (hsb _ wd_98)
  have hl := lv_entry ([.ref aL, .ref aC]) (n := 3) (Nat.le_of_ble_eq_true rfl)
  rw [lg_entry_eq]
  generalize (lg_sl ([.ref aL, .ref aC]) ++ List.replicate (3 - (lg_sl ([.ref aL, .ref aC])).length) Slot.unset).toArray = ls at hl ⊢
  have hl : lv_has ls 3 [(0, .ref aL), (1, .ref aC)] := hl
  refine lv_aload_n hx hb dX1_valueFor_0 rfl (lv_at hl 0 rfl) ?_
  refine lv_iconst (v := 0) hx hb dX1_valueFor_1 (by decide) ?_
  refine kk_put (ws' := [(aL, .inr (1, [.ref aP, .int L_count, .int L_fault, .ref aV, .int 0])), (aP, .inl (cP, 60, .inl fP)), (aV, .inl (cV, 60, .inr (.inl fV))), (aC, .inr (0, [.long C_place, .long C_speed, .int C_posture, .int C_since, .int C_height, .int C_ticks, .int C_way, .int C_strength, .int C_drops, .int C_greatestDrop, .long C_otherPlace, .long C_otherSpeed]))]) (ci := 1) (v := .int 0) (C := RX1) (T := TX1) (N := 5) hx hb hts iX1 tyX1_ok nmX1 hown hK hq 0 rfl rfl 4 (by decide) lk0_ rfl rfl rfl (Nat.le_of_ble_eq_true rfl) dX1_valueFor_2 rfl (fun H locs hq => ?_)
  refine lv_iconst (v := 0) hx hb dX1_valueFor_5 (by decide) ?_
  refine lv_istore_n (lv' := [(2, .int 0), (0, .ref aL), (1, .ref aC)]) hx hb dX1_valueFor_6 rfl hl (by decide) rfl (fun ls hl => ?_)
  refine kk_loop3 (fun N (i : Int32) (tp : Int32) (vf : Nat → Int64) (H : Heap) (locs : List Loc) (ls : Array Slot) => lpX1_valueFor_7 L_count fP C_place C_speed C_posture C_since C_height C_ticks (61) 0 0 fV = lpX1_valueFor_7 L_count fP C_place C_speed C_posture C_since C_height C_ticks N i tp vf ∧ (0 ≤ i.toInt) ∧ (i.toInt + N = 61) ∧ (i.toInt ≤ 60) ∧ (0 ≤ tp.toInt) ∧ (tp.toInt ≤ 60) ∧ lv_has ls 3 [(2, .int i), (0, .ref aL), (1, .ref aC)] ∧ kAt G A s [(aL, .inr (1, [.ref aP, .int L_count, .int L_fault, .ref aV, .int tp])), (aP, .inl (cP, 60, .inl fP)), (aV, .inl (cV, 60, .inr (.inl vf))), (aC, .inr (0, [.long C_place, .long C_speed, .int C_posture, .int C_since, .int C_height, .int C_ticks, .int C_way, .int C_strength, .int C_drops, .int C_greatestDrop, .long C_otherPlace, .long C_otherSpeed]))] H locs) 7 (fun i tp vf => []) (fun i tp vf H locs ls hv => ?_) (fun N i tp vf H locs ls ih hv => ?_) (61) 0 0 fV _ _ _ ⟨rfl, (by decide), (by decide), (by decide), (by decide), (by decide), lv_sub hl [0, 1, 2] rfl, hq⟩
  · skip
    obtain ⟨hrel, h0, hN, h1, t0, t1, hl, hq⟩ := hv
    omega
  · skip
    obtain ⟨hrel, h0, hN, h1, t0, t1, hl, hq⟩ := hv
    refine lv_iload_n hx hb dX1_valueFor_7 rfl (lv_at hl 0 rfl) ?_
    refine lv_aload_n hx hb dX1_valueFor_8 rfl (lv_at hl 1 rfl) ?_
    refine kk_get (ci := 1) (v := .int L_count) (C := RX1) (T := TX1) (N := 5) hx hb hts iX1 hown hK hq 0 rfl rfl 1 (by decide) lk1_ rfl dX1_valueFor_9 ?_
    refine lv_icmp_ge (tgt := 32) hx hb dX1_valueFor_12 (by decide) (fun c_1 => ?_) (fun c_1 => ?_)
    · skip
      have hx_2 : ((i, tp, vf) : Int32 × Int32 × (Nat → Int64)) = lpX1_valueFor_7 L_count fP C_place C_speed C_posture C_since C_height C_ticks (61) 0 0 fV := (hrel.trans ((if_pos c_1))).symm
      obtain ⟨z_3, gz_3⟩ : ∃ z : Int32 × Int32 × (Nat → Int64), z = (i, tp, vf) := ⟨_, rfl⟩
      have ez_3 : z_3 = lpX1_valueFor_7 L_count fP C_place C_speed C_posture C_since C_height C_ticks (61) 0 0 fV := gz_3.trans hx_2
      have hl : lv_has ls 3 [(2, .int z_3.1), (0, .ref aL), (1, .ref aC)] := by subst gz_3; exact hl
      have hq : kAt G A s [(aL, .inr (1, [.ref aP, .int L_count, .int L_fault, .ref aV, .int z_3.2.1])), (aP, .inl (cP, 60, .inl fP)), (aV, .inl (cV, 60, .inr (.inl z_3.2.2))), (aC, .inr (0, [.long C_place, .long C_speed, .int C_posture, .int C_since, .int C_height, .int C_ticks, .int C_way, .int C_strength, .int C_drops, .int C_greatestDrop, .long C_otherPlace, .long C_otherSpeed]))] H locs := by subst gz_3; exact hq
      have at1 : z_3.2.1.toInt ≤ 60 := by subst gz_3; exact t1
      refine lv_aload_n hx hb dX1_valueFor_32 rfl (lv_at hl 1 rfl) ?_
      refine kk_Vl (As := []) (rest := []) (wr := [(aP, .inl (cP, 60, .inl fP)), (aC, .inr (0, [.long C_place, .long C_speed, .int C_posture, .int C_since, .int C_height, .int C_ticks, .int C_way, .int C_strength, .int C_drops, .int C_greatestDrop, .long C_otherPlace, .long C_otherSpeed]))]) ⟨hx, hb, hml, hown, hts⟩ (c_X1_take l G aL aV aP cV L_count L_fault z_3.2.1 z_3.2.2 (by assumption)) (kk_cwV 0 hts hsb wd_448 wd_449 wd_450 wd_21 wd_451 rfl rfl hd_X1_take ⟨Nat.le_of_ble_eq_true rfl, Nat.le_of_ble_eq_true rfl⟩) hA hK hq [0, 2] [1, 3] [1] rfl rfl rfl (by decide) (by decide) (by decide) 0 1 rfl rfl rfl rfl hl.1 rfl (Nat.le_of_ble_eq_true rfl) dX1_valueFor_33 ⟨Nat.zero_le _, Nat.zero_le _⟩ (fun r_5 u_4 H locs h_6 hq => ?_)
      obtain ⟨er_5, eu_4⟩ := h_6
      have hq : kAt G A s [(aP, .inl (cP, 60, .inl fP)), (aC, .inr (0, [.long C_place, .long C_speed, .int C_posture, .int C_since, .int C_height, .int C_ticks, .int C_way, .int C_strength, .int C_drops, .int C_greatestDrop, .long C_otherPlace, .long C_otherSpeed])), (aL, .inr (1, [.ref aP, .int L_count, .int L_fault, .ref aV, .int u_4])), (aV, .inl (cV, 60, .inr (.inl z_3.2.2)))] H locs := hq
      have hf : ((r_5, u_4, z_3.2.2) : Int64 × Int32 × (Nat → Int64)) = fX1_valueFor L_count fP fV C_place C_speed C_posture C_since C_height C_ticks := by
        exact ((congrArg (fun (z_3 : Int32 × Int32 × (Nat → Int64)) => ((let r_5 : Int64 := (fX1_take z_3.2.1 z_3.2.2).1
  let u_4 : Int32 := (fX1_take z_3.2.1 z_3.2.2).2
  (r_5, u_4, z_3.2.2)) : Int64 × Int32 × (Nat → Int64))) ez_3.symm).trans ((congrArg (fun (r_5 : Int64) => ((let u_4 : Int32 := (fX1_take z_3.2.1 z_3.2.2).2
  (r_5, u_4, z_3.2.2)) : Int64 × Int32 × (Nat → Int64))) er_5.symm).trans ((congrArg (fun (u_4 : Int32) => (((r_5, u_4, z_3.2.2)) : Int64 × Int32 × (Nat → Int64))) eu_4.symm)))).symm
      exact kk_el hx hb hr hlocks hK hq [2, 0, 3, 1] (u_4, z_3.2.2) rfl (by decide) dX1_valueFor_36 ⟨congrArg Prod.fst hf, congrArg Prod.snd hf⟩
    · skip
      have hi : i.toInt < (60 : Nat) := by have h := c_1; rw [il_le] at h; omega
      refine lv_aload_n hx hb dX1_valueFor_15 rfl (lv_at hl 1 rfl) ?_
      refine lv_aload_n hx hb dX1_valueFor_16 rfl (lv_at hl 1 rfl) ?_
      refine kk_get (ci := 1) (v := .ref aP) (C := RX1) (T := TX1) (N := 5) hx hb hts iX1 hown hK hq 0 rfl rfl 0 (by decide) lk2_ rfl dX1_valueFor_17 ?_
      refine lv_iload_n hx hb dX1_valueFor_20 rfl (lv_at hl 0 rfl) ?_
      refine kk_iald hx hb hK hq 1 0 rfl rfl i.toNatClampNeg (kk_cl h0) (kk_clt h0 hi) (by decide) dX1_valueFor_21 ?_
      refine lv_aload_n hx hb dX1_valueFor_22 rfl (lv_at hl 2 rfl) ?_
      refine kk_Vv (As := [.int (fP i.toNatClampNeg), .ref aC]) (rest := []) (wr := [(aP, .inl (cP, 60, .inl fP))]) ⟨hx, hb, hml, hown, hts⟩ (c_X1_work l G aL aV aC aP cV (fP i.toNatClampNeg) L_count L_fault tp vf C_place C_speed C_posture C_since C_height C_ticks C_way C_strength C_drops C_greatestDrop C_otherPlace C_otherSpeed (by assumption) (by assumption)) (kk_cwV 2 hts hsb wd_432 wd_433 wd_434 wd_21 wd_435 rfl rfl hd_X1_work ⟨Nat.le_of_ble_eq_true rfl, Nat.le_of_ble_eq_true rfl⟩) hA hK hq [0, 2, 3] [1] [1] rfl rfl rfl (by decide) (by decide) (by decide) 0 1 rfl rfl rfl rfl hl.1 rfl (Nat.le_of_ble_eq_true rfl) dX1_valueFor_23 ⟨Nat.zero_le _, Nat.zero_le _⟩ (fun u_7 H locs h_9 hq => ?_)
      have eu_7 := h_9
      have hq : kAt G A s [(aP, .inl (cP, 60, .inl fP)), (aL, .inr (1, [.ref aP, .int L_count, .int L_fault, .ref aV, .int u_7.1])), (aV, .inl (cV, 60, .inr (.inl u_7.2))), (aC, .inr (0, [.long C_place, .long C_speed, .int C_posture, .int C_since, .int C_height, .int C_ticks, .int C_way, .int C_strength, .int C_drops, .int C_greatestDrop, .long C_otherPlace, .long C_otherSpeed]))] H locs := hq
      have tb : 0 ≤ u_7.1.toInt ∧ u_7.1.toInt ≤ 60 := by rw [eu_7]; exact work_top t0 t1
      refine lv_iinc (v := i + 1) (lv' := [(2, .int (i + 1)), (0, .ref aL), (1, .ref aC)]) hx hb dX1_valueFor_26 hl (k := 0) rfl rfl (by decide) rfl (fun ls hl => ?_)
      refine lv_goto (tgt := 7) hx hb dX1_valueFor_29 (by decide) ?_
      exact ih (i + 1) u_7.1 u_7.2 _ _ _ ⟨(hrel.trans ((if_neg c_1).trans ((congrArg (fun (u_7 : Int32 × (Nat → Int64)) => ((lpX1_valueFor_7 L_count fP C_place C_speed C_posture C_since C_height C_ticks N (i + 1) u_7.1 u_7.2) : Int32 × Int32 × (Nat → Int64))) eu_7.symm)))), (by have := kk_inc (x := i) (by omega); omega), (by have := kk_inc (x := i) (by omega); omega), (by have := kk_inc (x := i) (by omega); omega), tb.1, tb.2, lv_sub hl [0, 1, 2] rfl, (kk_sub hq [1, 0, 2, 3] rfl (by decide))⟩
theorem hd_X1_valueFor : yX1_valueFor.cls = RX1 ∧ yX1_valueFor.cls ≠ "java/lang/invoke/MethodHandle" ∧ yX1_valueFor.cls ≠ "java/lang/invoke/VarHandle" ∧ (parseMethodDescriptor yX1_valueFor.desc).map (fun d => d.parameters.length) = some 1 := by decide +kernel
def fX1_wishOf (L_count : Int32) (L_fault : Int32) (L_top : Int32) (fP : Nat → Int32) (fV : Nat → Int64) (C_place : Int64) (C_speed : Int64) (C_posture : Int32) (C_since : Int32) (C_height : Int32) (C_ticks : Int32) : Int32 × Int32 × (Nat → Int64) :=
  if L_fault = (-1) then (
    let r_3 : Int64 := (fX1_valueFor L_count fP fV C_place C_speed C_posture C_since C_height C_ticks).1
    let u_2 : Int32 × (Nat → Int64) := (fX1_valueFor L_count fP fV C_place C_speed C_posture C_since C_height C_ticks).2
    let q_5 : Int64 := if r_3 < 9 then r_3 else 9
    ((if q_5 < 0 then 0 else q_5).toInt32, u_2.1, u_2.2))
  else (
    (C_posture, L_top, fV))

set_option maxHeartbeats 4000000 in
set_option maxRecDepth 100000 in
theorem c_X1_wishOf (l : Launch) (G : va_G) (aL aP aV aC : Nat) (cP cV : ClassId) (L_count : Int32) (L_fault : Int32) (L_top : Int32) (fP : Nat → Int32) (fV : Nat → Int64) (C_place : Int64) (C_speed : Int64) (C_posture : Int32) (C_since : Int32) (C_height : Int32) (C_ticks : Int32) (C_way : Int32) (C_strength : Int32) (C_drops : Int32) (C_greatestDrop : Int32) (C_otherPlace : Int64) (C_otherSpeed : Int64) (hc : L_count.toInt ≤ 60) : kCi l yX1_wishOf (Cond.code yX1_wishOf cX1_wishOf 2 (some .int) :: wsL_law) ({ frames := 4, cells := 0, slots := 0, locals := 93 }) G [(cP, .int), (cV, .long)] [.ref aL, .ref aC] [(aL, .inr (1, [.ref aP, .int L_count, .int L_fault, .ref aV, .int L_top])), (aP, .inl (cP, 60, .inl fP)), (aV, .inl (cV, 60, .inr (.inl fV))), (aC, .inr (0, [.long C_place, .long C_speed, .int C_posture, .int C_since, .int C_height, .int C_ticks, .int C_way, .int C_strength, .int C_drops, .int C_greatestDrop, .long C_otherPlace, .long C_otherSpeed]))] (fun (r : Int32) (u : Int32 × (Nat → Int64)) => r = (fX1_wishOf L_count L_fault L_top fP fV C_place C_speed C_posture C_since C_height C_ticks).1 ∧ u = (fX1_wishOf L_count L_fault L_top fP fV C_place C_speed C_posture C_since C_height C_ticks).2) (fun (u : Int32 × (Nat → Int64)) => [(aL, .inr (1, [.ref aP, .int L_count, .int L_fault, .ref aV, .int u.1])), (aP, .inl (cP, 60, .inl fP)), (aV, .inl (cV, 60, .inr (.inl u.2))), (aC, .inr (0, [.long C_place, .long C_speed, .int C_posture, .int C_since, .int C_height, .int C_ticks, .int C_way, .int C_strength, .int C_drops, .int C_greatestDrop, .long C_otherPlace, .long C_otherSpeed]))]) := by
  intro sz
  refine Met.ofW (cc := cX1_wishOf) (maxL := 2) (ret := (some .int)) (by decide) rfl ?_
  intro p e s m args below meth c s₁ B hml hv
  obtain ⟨rfl, hv⟩ := hv
  obtain ⟨rfl, hK, hq, hA⟩ := kk_begin hv
  have hx := B.exec
  have hb := B.bytes
  have hr := B.returns
  have hts := atoms_spec (ws := (Cond.code yX1_wishOf cX1_wishOf 2 (some .int) :: wsL_law)) B.pre
  have hown : s.vm.findClass RX1 = some m.cls := findClass_of_methodNamed B.named
  have hlocks := B.notSynchronized
  have hsb : ∀ w ∈ wsL_law, w ∈ (Cond.code yX1_wishOf cX1_wishOf 2 (some .int) :: wsL_law) := fun _ h => List.mem_cons_of_mem _ h
  generalize va_A [(aL, .inr (1, [.ref aP, .int L_count, .int L_fault, .ref aV, .int L_top])), (aP, .inl (cP, 60, .inl fP)), (aV, .inl (cV, 60, .inr (.inl fV))), (aC, .inr (0, [.long C_place, .long C_speed, .int C_posture, .int C_since, .int C_height, .int C_ticks, .int C_way, .int C_strength, .int C_drops, .int C_greatestDrop, .long C_otherPlace, .long C_otherSpeed]))] s.heap.size = A at hq hA ⊢
  have iX0 : ∀ w ∈ u_ws RX0 TX0 12, w ∈ (Cond.code yX1_wishOf cX1_wishOf 2 (some .int) :: wsL_law) := fun w h => hsb w (bin_X0 w h)
  have iX1 : ∀ w ∈ u_ws RX1 TX1 5, w ∈ (Cond.code yX1_wishOf cX1_wishOf 2 (some .int) :: wsL_law) := fun w h => hsb w (bin_X1 w h)
  have lk0_ := hts _ (hsb _ wd_100)
  have lk1_ := hts _ (hsb _ wd_421)
  have lk2_ := hts _ (hsb _ wd_422)
  have lk3_ := hts _ (hsb _ wd_423)
  have lk4_ := hts _ (hsb _ wd_385)
  have lk5_ := hts _ (hsb _ wd_424)
  have lk6_ := hts _ (hsb _ wd_425)
  have lk7_ := hts _ (hsb _ wd_426)
  have lk8_ := hts _ (hsb _ wd_427)
  have lk9_ := hts _ (hsb _ wd_420)
  have hl := lv_entry ([.ref aL, .ref aC]) (n := 2) (Nat.le_of_ble_eq_true rfl)
  rw [lg_entry_eq]
  generalize (lg_sl ([.ref aL, .ref aC]) ++ List.replicate (2 - (lg_sl ([.ref aL, .ref aC])).length) Slot.unset).toArray = ls at hl ⊢
  have hl : lv_has ls 2 [(0, .ref aL), (1, .ref aC)] := hl
  refine lv_aload_n hx hb dX1_wishOf_0 rfl (lv_at hl 0 rfl) ?_
  refine kk_get (ci := 1) (v := .int L_fault) (C := RX1) (T := TX1) (N := 5) hx hb hts iX1 hown hK hq 0 rfl rfl 2 (by decide) lk0_ rfl dX1_wishOf_1 ?_
  refine lv_iconst (v := -1) hx hb dX1_wishOf_4 (by decide) ?_
  refine lv_icmp_eq (tgt := 13) hx hb dX1_wishOf_5 (by decide) (fun c_1 => ?_) (fun c_1 => ?_)
  · skip
    refine lv_lconst (v := 0) hx hb dX1_wishOf_13 (by decide) ?_
    refine lv_ldc2 hx hb hown lk1_ dX1_wishOf_14 ?_
    refine lv_aload_n hx hb dX1_wishOf_17 rfl (lv_at hl 0 rfl) ?_
    refine lv_aload_n hx hb dX1_wishOf_18 rfl (lv_at hl 1 rfl) ?_
    refine kk_Vl (As := [.ref aC]) (rest := [.long 9, .long 0]) (wr := []) ⟨hx, hb, hml, hown, hts⟩ (c_X1_valueFor l G aL aP aV aC cP cV L_count L_fault L_top fP fV C_place C_speed C_posture C_since C_height C_ticks C_way C_strength C_drops C_greatestDrop C_otherPlace C_otherSpeed (by assumption)) (kk_cwV 1 hts hsb wd_428 wd_429 wd_430 wd_21 wd_431 rfl rfl hd_X1_valueFor ⟨Nat.le_of_ble_eq_true rfl, Nat.le_of_ble_eq_true rfl⟩) hA hK hq [0, 1, 2, 3] [] [0, 1] rfl rfl rfl (by decide) (by decide) (by decide) 0 1 rfl rfl rfl rfl hl.1 rfl (Nat.le_of_ble_eq_true rfl) dX1_wishOf_19 ⟨Nat.zero_le _, Nat.zero_le _⟩ (fun r_3 u_2 H locs h_4 hq => ?_)
    obtain ⟨er_3, eu_2⟩ := h_4
    have hq : kAt G A s [(aL, .inr (1, [.ref aP, .int L_count, .int L_fault, .ref aV, .int u_2.1])), (aP, .inl (cP, 60, .inl fP)), (aV, .inl (cV, 60, .inr (.inl u_2.2))), (aC, .inr (0, [.long C_place, .long C_speed, .int C_posture, .int C_since, .int C_height, .int C_ticks, .int C_way, .int C_strength, .int C_drops, .int C_greatestDrop, .long C_otherPlace, .long C_otherSpeed]))] H locs := hq
    refine va_mmin_long hx hb (by rw [hml]; exact hl.1.symm) hown lk2_ lk3_ lk4_ lk5_ (Nat.le_of_ble_eq_true rfl) (Nat.le_of_ble_eq_true rfl) (Nat.zero_le _) (Nat.zero_le _) dX1_wishOf_22 ?_
    refine lv_topl (fun q_5 eq_5 => ?_)
    refine va_mmax_long hx hb (by rw [hml]; exact hl.1.symm) hown lk6_ lk7_ lk4_ lk8_ (Nat.le_of_ble_eq_true rfl) (Nat.le_of_ble_eq_true rfl) (Nat.zero_le _) (Nat.zero_le _) dX1_wishOf_25 ?_
    refine lv_l2i hx hb dX1_wishOf_28 rfl ?_
    have hf : (((if q_5 < 0 then 0 else q_5).toInt32, u_2.1, u_2.2) : Int32 × Int32 × (Nat → Int64)) = fX1_wishOf L_count L_fault L_top fP fV C_place C_speed C_posture C_since C_height C_ticks := by
      exact ((if_pos c_1).trans ((congrArg (fun (r_3 : Int64) => ((let u_2 : Int32 × (Nat → Int64) := (fX1_valueFor L_count fP fV C_place C_speed C_posture C_since C_height C_ticks).2
  let q_5 : Int64 := if r_3 < 9 then r_3 else 9
  ((if q_5 < 0 then 0 else q_5).toInt32, u_2.1, u_2.2)) : Int32 × Int32 × (Nat → Int64))) er_3.symm).trans ((congrArg (fun (u_2 : Int32 × (Nat → Int64)) => ((let q_5 : Int64 := if r_3 < 9 then r_3 else 9
  ((if q_5 < 0 then 0 else q_5).toInt32, u_2.1, u_2.2)) : Int32 × Int32 × (Nat → Int64))) eu_2.symm).trans ((congrArg (fun (q_5 : Int64) => ((((if q_5 < 0 then 0 else q_5).toInt32, u_2.1, u_2.2)) : Int32 × Int32 × (Nat → Int64))) eq_5.symm))))).symm
    exact kk_ei hx hb hr hlocks hK hq [0, 1, 2, 3] (u_2.1, u_2.2) rfl (by decide) dX1_wishOf_29 ⟨congrArg Prod.fst hf, congrArg Prod.snd hf⟩
  · skip
    refine lv_aload_n hx hb dX1_wishOf_8 rfl (lv_at hl 1 rfl) ?_
    refine kk_get (ci := 0) (v := .int C_posture) (C := RX0) (T := TX0) (N := 12) hx hb hts iX0 hown hK hq 3 rfl rfl 2 (by decide) lk9_ rfl dX1_wishOf_9 ?_
    have hf : ((C_posture, L_top, fV) : Int32 × Int32 × (Nat → Int64)) = fX1_wishOf L_count L_fault L_top fP fV C_place C_speed C_posture C_since C_height C_ticks := by
      exact ((if_neg c_1)).symm
    exact kk_ei hx hb hr hlocks hK hq [0, 1, 2, 3] (L_top, fV) rfl (by decide) dX1_wishOf_12 ⟨congrArg Prod.fst hf, congrArg Prod.snd hf⟩
