theorem sa_or {p n : Int32} {S : Nat → Int32} (hn : n.toInt ≤ 60) : fX5_signAt p n S = -1 ∨ p.toInt < 60 := by
  unfold fX5_signAt
  dsimp only
  split
  · exact Or.inl rfl
  · split
    · exact Or.inl rfl
    · rename_i h
      rw [il_le] at h
      exact Or.inr (by omega)
theorem nx_use {r k at_ : Int32} (h : r = -1 ∨ at_.toInt < 60) (hr : r = k) (hk : k ≠ -1) : at_.toInt < 60 := by
  rcases h with h | h
  · exact absurd (hr.symm.trans h) hk
  · exact h
theorem nx_or {r at_ : Int32} (h : r = -1 ∨ at_.toInt < 60) (hr : ¬ r = -1) : at_.toInt < 60 := h.resolve_left hr
theorem nx_ne {r at_ : Int32} (h : r = -1 ∨ at_.toInt < 60) (hr : ¬ r = -1) : at_.toInt < 60 := h.resolve_left hr
theorem at_inc {x y : Int32} (e : y = x + 1) (h0 : 0 ≤ x.toInt) (h : x.toInt < 60) : 0 ≤ y.toInt ∧ y.toInt ≤ 60 := by
  subst e
  have := kk_inc (x := x) (by omega)
  omega
def fX2_isDigit (p1 : Int32) : Int32 :=
  let z0_2 : Int32 := if p1 < 48 then 0 else if 57 < p1 then 0 else 1
  z0_2

set_option maxHeartbeats 4000000 in
set_option maxRecDepth 100000 in
theorem c_X2_isDigit (l : Launch) (G : va_G) (p1 : Int32) : kCi l yX2_isDigit (Cond.code yX2_isDigit cX2_isDigit 1 (some .boolean) :: wsL_law) ({ frames := 0, cells := 0, slots := 0, locals := 0 }) G [] [.int p1] [] (fun (r : Int32) (_ : Unit) => r = fX2_isDigit p1 ∧ (r = 0 ∨ r = 1)) (fun (_ : Unit) => []) := by
  intro sz
  refine Met.ofW (cc := cX2_isDigit) (maxL := 1) (ret := (some .boolean)) (by decide) rfl ?_
  intro p e s m args below meth c s₁ B hml hv
  obtain ⟨rfl, hv⟩ := hv
  obtain ⟨rfl, hK, hq, hA⟩ := kk_begin hv
  have hx := B.exec
  have hb := B.bytes
  have hr := B.returns
  have hts := atoms_spec (ws := (Cond.code yX2_isDigit cX2_isDigit 1 (some .boolean) :: wsL_law)) B.pre
  have hown : s.vm.findClass RX2 = some m.cls := findClass_of_methodNamed B.named
  have hlocks := B.notSynchronized
  have hsb : ∀ w ∈ wsL_law, w ∈ (Cond.code yX2_isDigit cX2_isDigit 1 (some .boolean) :: wsL_law) := fun _ h => List.mem_cons_of_mem _ h
  generalize va_A [] s.heap.size = A at hq hA ⊢
  have hl := lv_entry ([.int p1]) (n := 1) (Nat.le_of_ble_eq_true rfl)
  rw [lg_entry_eq]
  generalize (lg_sl ([.int p1]) ++ List.replicate (1 - (lg_sl ([.int p1])).length) Slot.unset).toArray = ls at hl ⊢
  have hl : lv_has ls 1 [(0, .int p1)] := hl
  refine lv_iload_n hx hb dX2_isDigit_0 rfl (lv_at hl 0 rfl) ?_
  refine lv_bipush (v := 48) hx hb dX2_isDigit_1 (by decide) ?_
  refine kk_join1 (fun (z0_2 : Int32) (H : Heap) (locs : List Loc) (ls : Array Slot) => z0_2 = (if p1 < 48 then 0 else if 57 < p1 then 0 else 1) ∧ lv_has ls 1 [(0, .int p1)] ∧ kAt G A s [] H locs) 17 (fun z0_2 => [.int z0_2]) (fun z0_2 H locs ls hv => ?_) (fun J_3 => ?_)
  · skip
    obtain ⟨ez0_2, hl, hq⟩ := hv
    have hf : (z0_2 : Int32) = fX2_isDigit p1 := by
      exact ((congrArg (fun (z0_2 : Int32) => ((z0_2) : Int32)) ez0_2.symm)).symm
    have hz : (z0_2 : Int32) = 0 ∨ (z0_2 : Int32) = 1 := (by rw [ez0_2]; repeat (first | exact Or.inl rfl | exact Or.inr rfl | split))
    exact kk_ez hx hb hr hlocks hz hK hq [] () rfl (by decide) dX2_isDigit_17 ⟨hf, hz⟩
  · skip
    refine lv_icmp_lt (tgt := 16) hx hb dX2_isDigit_3 (by decide) (fun c_1 => ?_) (fun c_1 => ?_)
    · skip
      refine lv_iconst (v := 0) hx hb dX2_isDigit_16 (by decide) ?_
      exact J_3 0 _ _ _ ⟨(if_pos c_1).symm, lv_sub hl [0] rfl, hq⟩
    · skip
      refine lv_iload_n hx hb dX2_isDigit_6 rfl (lv_at hl 0 rfl) ?_
      refine lv_bipush (v := 57) hx hb dX2_isDigit_7 (by decide) ?_
      refine lv_icmp_gt (tgt := 16) hx hb dX2_isDigit_9 (by decide) (fun c_4 => ?_) (fun c_4 => ?_)
      · skip
        refine lv_iconst (v := 0) hx hb dX2_isDigit_16 (by decide) ?_
        exact J_3 0 _ _ _ ⟨((if_neg c_1).trans (if_pos c_4)).symm, lv_sub hl [0] rfl, hq⟩
      · skip
        refine lv_iconst (v := 1) hx hb dX2_isDigit_12 (by decide) ?_
        refine lv_goto (tgt := 17) hx hb dX2_isDigit_13 (by decide) ?_
        exact J_3 1 _ _ _ ⟨((if_neg c_1).trans (if_neg c_4)).symm, lv_sub hl [0] rfl, hq⟩
def fX2_isLetter (p1 : Int32) : Int32 :=
  let z0_2 : Int32 := if p1 = 97 then 1 else if p1 = 118 then 1 else if p1 = 104 then 1 else if p1 = 116 then 1 else if p1 = 117 then 1 else if p1 = 107 then 1 else 0
  z0_2

set_option maxHeartbeats 4000000 in
set_option maxRecDepth 100000 in
theorem c_X2_isLetter (l : Launch) (G : va_G) (p1 : Int32) : kCi l yX2_isLetter (Cond.code yX2_isLetter cX2_isLetter 1 (some .boolean) :: wsL_law) ({ frames := 0, cells := 0, slots := 0, locals := 0 }) G [] [.int p1] [] (fun (r : Int32) (_ : Unit) => r = fX2_isLetter p1 ∧ (r = 0 ∨ r = 1)) (fun (_ : Unit) => []) := by
  intro sz
  refine Met.ofW (cc := cX2_isLetter) (maxL := 1) (ret := (some .boolean)) (by decide) rfl ?_
  intro p e s m args below meth c s₁ B hml hv
  obtain ⟨rfl, hv⟩ := hv
  obtain ⟨rfl, hK, hq, hA⟩ := kk_begin hv
  have hx := B.exec
  have hb := B.bytes
  have hr := B.returns
  have hts := atoms_spec (ws := (Cond.code yX2_isLetter cX2_isLetter 1 (some .boolean) :: wsL_law)) B.pre
  have hown : s.vm.findClass RX2 = some m.cls := findClass_of_methodNamed B.named
  have hlocks := B.notSynchronized
  have hsb : ∀ w ∈ wsL_law, w ∈ (Cond.code yX2_isLetter cX2_isLetter 1 (some .boolean) :: wsL_law) := fun _ h => List.mem_cons_of_mem _ h
  generalize va_A [] s.heap.size = A at hq hA ⊢
  have hl := lv_entry ([.int p1]) (n := 1) (Nat.le_of_ble_eq_true rfl)
  rw [lg_entry_eq]
  generalize (lg_sl ([.int p1]) ++ List.replicate (1 - (lg_sl ([.int p1])).length) Slot.unset).toArray = ls at hl ⊢
  have hl : lv_has ls 1 [(0, .int p1)] := hl
  refine lv_iload_n hx hb dX2_isLetter_0 rfl (lv_at hl 0 rfl) ?_
  refine lv_bipush (v := 97) hx hb dX2_isLetter_1 (by decide) ?_
  refine kk_join1 (fun (z0_2 : Int32) (H : Heap) (locs : List Loc) (ls : Array Slot) => z0_2 = (if p1 = 97 then 1 else if p1 = 118 then 1 else if p1 = 104 then 1 else if p1 = 116 then 1 else if p1 = 117 then 1 else if p1 = 107 then 1 else 0) ∧ lv_has ls 1 [(0, .int p1)] ∧ kAt G A s [] H locs) 41 (fun z0_2 => [.int z0_2]) (fun z0_2 H locs ls hv => ?_) (fun J_3 => ?_)
  · skip
    obtain ⟨ez0_2, hl, hq⟩ := hv
    have hf : (z0_2 : Int32) = fX2_isLetter p1 := by
      exact ((congrArg (fun (z0_2 : Int32) => ((z0_2) : Int32)) ez0_2.symm)).symm
    have hz : (z0_2 : Int32) = 0 ∨ (z0_2 : Int32) = 1 := (by rw [ez0_2]; repeat (first | exact Or.inl rfl | exact Or.inr rfl | split))
    exact kk_ez hx hb hr hlocks hz hK hq [] () rfl (by decide) dX2_isLetter_41 ⟨hf, hz⟩
  · skip
    refine lv_icmp_eq (tgt := 36) hx hb dX2_isLetter_3 (by decide) (fun c_1 => ?_) (fun c_1 => ?_)
    · skip
      refine lv_iconst (v := 1) hx hb dX2_isLetter_36 (by decide) ?_
      refine lv_goto (tgt := 41) hx hb dX2_isLetter_37 (by decide) ?_
      exact J_3 1 _ _ _ ⟨(if_pos c_1).symm, lv_sub hl [0] rfl, hq⟩
    · skip
      refine lv_iload_n hx hb dX2_isLetter_6 rfl (lv_at hl 0 rfl) ?_
      refine lv_bipush (v := 118) hx hb dX2_isLetter_7 (by decide) ?_
      refine lv_icmp_eq (tgt := 36) hx hb dX2_isLetter_9 (by decide) (fun c_4 => ?_) (fun c_4 => ?_)
      · skip
        refine lv_iconst (v := 1) hx hb dX2_isLetter_36 (by decide) ?_
        refine lv_goto (tgt := 41) hx hb dX2_isLetter_37 (by decide) ?_
        exact J_3 1 _ _ _ ⟨((if_neg c_1).trans (if_pos c_4)).symm, lv_sub hl [0] rfl, hq⟩
      · skip
        refine lv_iload_n hx hb dX2_isLetter_12 rfl (lv_at hl 0 rfl) ?_
        refine lv_bipush (v := 104) hx hb dX2_isLetter_13 (by decide) ?_
        refine lv_icmp_eq (tgt := 36) hx hb dX2_isLetter_15 (by decide) (fun c_5 => ?_) (fun c_5 => ?_)
        · skip
          refine lv_iconst (v := 1) hx hb dX2_isLetter_36 (by decide) ?_
          refine lv_goto (tgt := 41) hx hb dX2_isLetter_37 (by decide) ?_
          exact J_3 1 _ _ _ ⟨((if_neg c_1).trans ((if_neg c_4).trans (if_pos c_5))).symm, lv_sub hl [0] rfl, hq⟩
        · skip
          refine lv_iload_n hx hb dX2_isLetter_18 rfl (lv_at hl 0 rfl) ?_
          refine lv_bipush (v := 116) hx hb dX2_isLetter_19 (by decide) ?_
          refine lv_icmp_eq (tgt := 36) hx hb dX2_isLetter_21 (by decide) (fun c_6 => ?_) (fun c_6 => ?_)
          · skip
            refine lv_iconst (v := 1) hx hb dX2_isLetter_36 (by decide) ?_
            refine lv_goto (tgt := 41) hx hb dX2_isLetter_37 (by decide) ?_
            exact J_3 1 _ _ _ ⟨((if_neg c_1).trans ((if_neg c_4).trans ((if_neg c_5).trans (if_pos c_6)))).symm, lv_sub hl [0] rfl, hq⟩
          · skip
            refine lv_iload_n hx hb dX2_isLetter_24 rfl (lv_at hl 0 rfl) ?_
            refine lv_bipush (v := 117) hx hb dX2_isLetter_25 (by decide) ?_
            refine lv_icmp_eq (tgt := 36) hx hb dX2_isLetter_27 (by decide) (fun c_7 => ?_) (fun c_7 => ?_)
            · skip
              refine lv_iconst (v := 1) hx hb dX2_isLetter_36 (by decide) ?_
              refine lv_goto (tgt := 41) hx hb dX2_isLetter_37 (by decide) ?_
              exact J_3 1 _ _ _ ⟨((if_neg c_1).trans ((if_neg c_4).trans ((if_neg c_5).trans ((if_neg c_6).trans (if_pos c_7))))).symm, lv_sub hl [0] rfl, hq⟩
            · skip
              refine lv_iload_n hx hb dX2_isLetter_30 rfl (lv_at hl 0 rfl) ?_
              refine lv_bipush (v := 107) hx hb dX2_isLetter_31 (by decide) ?_
              refine lv_icmp_ne (tgt := 40) hx hb dX2_isLetter_33 (by decide) (fun c_8 => ?_) (fun c_8 => ?_)
              · skip
                refine lv_iconst (v := 0) hx hb dX2_isLetter_40 (by decide) ?_
                exact J_3 0 _ _ _ ⟨((if_neg c_1).trans ((if_neg c_4).trans ((if_neg c_5).trans ((if_neg c_6).trans ((if_neg c_7).trans (if_neg c_8)))))).symm, lv_sub hl [0] rfl, hq⟩
              · skip
                refine lv_iconst (v := 1) hx hb dX2_isLetter_36 (by decide) ?_
                refine lv_goto (tgt := 41) hx hb dX2_isLetter_37 (by decide) ?_
                exact J_3 1 _ _ _ ⟨((if_neg c_1).trans ((if_neg c_4).trans ((if_neg c_5).trans ((if_neg c_6).trans ((if_neg c_7).trans (if_pos c_8)))))).symm, lv_sub hl [0] rfl, hq⟩
theorem dig_ne {x : Int32} (h : ¬ fX2_isDigit x = 0) : ¬ x = -1 := fun e => h (by subst e; rfl)
theorem let_ne {x : Int32} (h : ¬ fX2_isLetter x = 0) : ¬ x = -1 := fun e => h (by subst e; rfl)
def fX2_refuse (p1 : Int32) (p2 : Int32) (L_fault : Int32) : Int32 :=
  let fault_2 : Int32 := if L_fault = (-1) then (10 * p1) + p2 else L_fault
  fault_2

set_option maxHeartbeats 4000000 in
set_option maxRecDepth 100000 in
theorem c_X2_refuse (l : Launch) (G : va_G) (aR aL rR_waiting rR_text rL_parts rL_values : Nat) (p1 : Int32) (p2 : Int32) (R_waitingCount : Int32) (R_at : Int32) (L_count : Int32) (L_fault : Int32) (L_top : Int32) : kCv l yX2_refuse (Cond.code yX2_refuse cX2_refuse 3 none :: wsL_law) ({ frames := 0, cells := 0, slots := 0, locals := 0 }) G [] [.ref aR, .int p1, .int p2] [(aR, .inr (2, [.ref rR_waiting, .int R_waitingCount, .ref rR_text, .ref aL, .int R_at])), (aL, .inr (1, [.ref rL_parts, .int L_count, .int L_fault, .ref rL_values, .int L_top]))] (fun (u : Int32) => u = fX2_refuse p1 p2 L_fault) (fun (u : Int32) => [(aR, .inr (2, [.ref rR_waiting, .int R_waitingCount, .ref rR_text, .ref aL, .int R_at])), (aL, .inr (1, [.ref rL_parts, .int L_count, .int u, .ref rL_values, .int L_top]))]) := by
  intro sz
  refine Met.ofW (cc := cX2_refuse) (maxL := 3) (ret := none) (by decide) rfl ?_
  intro p e s m args below meth c s₁ B hml hv
  obtain ⟨rfl, hv⟩ := hv
  obtain ⟨rfl, hK, hq, hA⟩ := kk_begin hv
  have hx := B.exec
  have hb := B.bytes
  have hr := B.returns
  have hts := atoms_spec (ws := (Cond.code yX2_refuse cX2_refuse 3 none :: wsL_law)) B.pre
  have hown : s.vm.findClass RX2 = some m.cls := findClass_of_methodNamed B.named
  have hlocks := B.notSynchronized
  have hsb : ∀ w ∈ wsL_law, w ∈ (Cond.code yX2_refuse cX2_refuse 3 none :: wsL_law) := fun _ h => List.mem_cons_of_mem _ h
  generalize va_A [(aR, .inr (2, [.ref rR_waiting, .int R_waitingCount, .ref rR_text, .ref aL, .int R_at])), (aL, .inr (1, [.ref rL_parts, .int L_count, .int L_fault, .ref rL_values, .int L_top]))] s.heap.size = A at hq hA ⊢
  have iX1 : ∀ w ∈ u_ws RX1 TX1 5, w ∈ (Cond.code yX2_refuse cX2_refuse 3 none :: wsL_law) := fun w h => hsb w (bin_X1 w h)
  have iX2 : ∀ w ∈ u_ws RX2 TX2 5, w ∈ (Cond.code yX2_refuse cX2_refuse 3 none :: wsL_law) := fun w h => hsb w (bin_X2 w h)
  have lk0_ := hts _ (hsb _ wd_112)
  have lk1_ := hts _ (hsb _ wd_199)
  have hl := lv_entry ([.ref aR, .int p1, .int p2]) (n := 3) (Nat.le_of_ble_eq_true rfl)
  rw [lg_entry_eq]
  generalize (lg_sl ([.ref aR, .int p1, .int p2]) ++ List.replicate (3 - (lg_sl ([.ref aR, .int p1, .int p2])).length) Slot.unset).toArray = ls at hl ⊢
  have hl : lv_has ls 3 [(0, .ref aR), (1, .int p1), (2, .int p2)] := hl
  refine lv_aload_n hx hb dX2_refuse_0 rfl (lv_at hl 0 rfl) ?_
  refine kk_get (ci := 2) (v := .ref aL) (C := RX2) (T := TX2) (N := 5) hx hb hts iX2 hown hK hq 0 rfl rfl 3 (by decide) lk0_ rfl dX2_refuse_1 ?_
  refine kk_get (ci := 1) (v := .int L_fault) (C := RX1) (T := TX1) (N := 5) hx hb hts iX1 hown hK hq 1 rfl rfl 2 (by decide) lk1_ rfl dX2_refuse_4 ?_
  refine lv_iconst (v := -1) hx hb dX2_refuse_7 (by decide) ?_
  refine kk_join1 (fun (fault_2 : Int32) (H : Heap) (locs : List Loc) (ls : Array Slot) => fault_2 = (if L_fault = (-1) then (10 * p1) + p2 else L_fault) ∧ lv_has ls 3 [(0, .ref aR), (1, .int p1), (2, .int p2)] ∧ kAt G A s [(aR, .inr (2, [.ref rR_waiting, .int R_waitingCount, .ref rR_text, .ref aL, .int R_at])), (aL, .inr (1, [.ref rL_parts, .int L_count, .int fault_2, .ref rL_values, .int L_top]))] H locs) 24 (fun fault_2 => []) (fun fault_2 H locs ls hv => ?_) (fun J_3 => ?_)
  · skip
    obtain ⟨efault_2, hl, hq⟩ := hv
    have hf : (fault_2 : Int32) = fX2_refuse p1 p2 L_fault := by
      exact ((congrArg (fun (fault_2 : Int32) => ((fault_2) : Int32)) efault_2.symm)).symm
    exact kk_ev hx hb hr hlocks hK hq [0, 1] fault_2 rfl (by decide) dX2_refuse_24 hf
  · skip
    refine lv_icmp_ne (tgt := 24) hx hb dX2_refuse_8 (by decide) (fun c_1 => ?_) (fun c_1 => ?_)
    · skip
      exact J_3 L_fault _ _ _ ⟨(if_neg c_1).symm, lv_sub hl [0, 1, 2] rfl, hq⟩
    · skip
      refine lv_aload_n hx hb dX2_refuse_11 rfl (lv_at hl 0 rfl) ?_
      refine kk_get (ci := 2) (v := .ref aL) (C := RX2) (T := TX2) (N := 5) hx hb hts iX2 hown hK hq 0 rfl rfl 3 (by decide) lk0_ rfl dX2_refuse_12 ?_
      refine lv_bipush (v := 10) hx hb dX2_refuse_15 (by decide) ?_
      refine lv_iload_n hx hb dX2_refuse_17 rfl (lv_at hl 1 rfl) ?_
      refine lv_imul hx hb dX2_refuse_18 ?_
      refine lv_iload_n hx hb dX2_refuse_19 rfl (lv_at hl 2 rfl) ?_
      refine lv_iadd hx hb dX2_refuse_20 ?_
      refine kk_put (ws' := [(aR, .inr (2, [.ref rR_waiting, .int R_waitingCount, .ref rR_text, .ref aL, .int R_at])), (aL, .inr (1, [.ref rL_parts, .int L_count, .int ((10 * p1) + p2), .ref rL_values, .int L_top]))]) (ci := 1) (v := .int ((10 * p1) + p2)) (C := RX1) (T := TX1) (N := 5) hx hb hts iX1 tyX1_ok nmX1 hown hK hq 1 rfl rfl 2 (by decide) lk1_ rfl rfl rfl (Nat.le_of_ble_eq_true rfl) dX2_refuse_21 rfl (fun H locs hq => ?_)
      exact J_3 ((10 * p1) + p2) _ _ _ ⟨(if_pos c_1).symm, lv_sub hl [0, 1, 2] rfl, hq⟩
def lpX2_nextSign_13 (T_length : Int32) (fS : Nat → Int32) : Nat → Int32 → Int32
  | 0, _ => 0
  | N + 1, at_ =>
    if T_length ≤ at_ then (
    at_)
    else (
    let r_4 : Int32 := fX5_signAt at_ T_length fS
    if r_4 = 32 then (
    let at_7 : Int32 := at_ + 1
    lpX2_nextSign_13 T_length fS N at_7)
    else (
    at_))

def fX2_nextSign (R_at : Int32) (T_length : Int32) (fS : Nat → Int32) (L_fault : Int32) : Int32 × Int32 :=
  if L_fault = (-1) then (
    let z_13 : Int32 := lpX2_nextSign_13 T_length fS (61) R_at
    let r_15 : Int32 := fX5_signAt z_13 T_length fS
    (r_15, z_13))
  else (
    ((-1), R_at))

set_option maxHeartbeats 4000000 in
set_option maxRecDepth 100000 in
theorem c_X2_nextSign (l : Launch) (G : va_G) (aR aT aS aL rR_waiting rL_parts rL_values : Nat) (cS : ClassId) (R_waitingCount : Int32) (R_at : Int32) (T_length : Int32) (fS : Nat → Int32) (L_count : Int32) (L_fault : Int32) (L_top : Int32) (q0 : 0 ≤ R_at.toInt) (q1 : R_at.toInt ≤ 60) (n1 : T_length.toInt ≤ 60) : kCi l yX2_nextSign (Cond.code yX2_nextSign cX2_nextSign 1 (some .int) :: wsL_law) ({ frames := 1, cells := 0, slots := 0, locals := 21 }) G [(cS, .int)] [.ref aR] [(aR, .inr (2, [.ref rR_waiting, .int R_waitingCount, .ref aT, .ref aL, .int R_at])), (aT, .inr (5, [.ref aS, .int T_length])), (aS, .inl (cS, 60, .inl fS)), (aL, .inr (1, [.ref rL_parts, .int L_count, .int L_fault, .ref rL_values, .int L_top]))] (fun (r : Int32) (u : Int32) => r = (fX2_nextSign R_at T_length fS L_fault).1 ∧ u = (fX2_nextSign R_at T_length fS L_fault).2 ∧ (0 ≤ u.toInt) ∧ (u.toInt ≤ 60) ∧ ((r : Int32) = -1 ∨ u.toInt < 60)) (fun (u : Int32) => [(aR, .inr (2, [.ref rR_waiting, .int R_waitingCount, .ref aT, .ref aL, .int u])), (aT, .inr (5, [.ref aS, .int T_length])), (aS, .inl (cS, 60, .inl fS)), (aL, .inr (1, [.ref rL_parts, .int L_count, .int L_fault, .ref rL_values, .int L_top]))]) := by
  intro sz
  refine Met.ofW (cc := cX2_nextSign) (maxL := 1) (ret := (some .int)) (by decide) rfl ?_
  intro p e s m args below meth c s₁ B hml hv
  obtain ⟨rfl, hv⟩ := hv
  obtain ⟨rfl, hK, hq, hA⟩ := kk_begin hv
  have hx := B.exec
  have hb := B.bytes
  have hr := B.returns
  have hts := atoms_spec (ws := (Cond.code yX2_nextSign cX2_nextSign 1 (some .int) :: wsL_law)) B.pre
  have hown : s.vm.findClass RX2 = some m.cls := findClass_of_methodNamed B.named
  have hlocks := B.notSynchronized
  have hsb : ∀ w ∈ wsL_law, w ∈ (Cond.code yX2_nextSign cX2_nextSign 1 (some .int) :: wsL_law) := fun _ h => List.mem_cons_of_mem _ h
  generalize va_A [(aR, .inr (2, [.ref rR_waiting, .int R_waitingCount, .ref aT, .ref aL, .int R_at])), (aT, .inr (5, [.ref aS, .int T_length])), (aS, .inl (cS, 60, .inl fS)), (aL, .inr (1, [.ref rL_parts, .int L_count, .int L_fault, .ref rL_values, .int L_top]))] s.heap.size = A at hq hA ⊢
  have iX1 : ∀ w ∈ u_ws RX1 TX1 5, w ∈ (Cond.code yX2_nextSign cX2_nextSign 1 (some .int) :: wsL_law) := fun w h => hsb w (bin_X1 w h)
  have iX2 : ∀ w ∈ u_ws RX2 TX2 5, w ∈ (Cond.code yX2_nextSign cX2_nextSign 1 (some .int) :: wsL_law) := fun w h => hsb w (bin_X2 w h)
  have iX5 : ∀ w ∈ u_ws RX5 TX5 2, w ∈ (Cond.code yX2_nextSign cX2_nextSign 1 (some .int) :: wsL_law) := fun w h => hsb w (bin_X5 w h)
  have lk0_ := hts _ (hsb _ wd_112)
  have lk1_ := hts _ (hsb _ wd_199)
  have lk2_ := hts _ (hsb _ wd_110)
  have lk3_ := hts _ (hsb _ wd_111)
  have lk4_ := hts _ (hsb _ wd_200)
  have hl := lv_entry ([.ref aR]) (n := 1) (Nat.le_of_ble_eq_true rfl)
  rw [lg_entry_eq]
  generalize (lg_sl ([.ref aR]) ++ List.replicate (1 - (lg_sl ([.ref aR])).length) Slot.unset).toArray = ls at hl ⊢
  have hl : lv_has ls 1 [(0, .ref aR)] := hl
  refine lv_aload_n hx hb dX2_nextSign_0 rfl (lv_at hl 0 rfl) ?_
  refine kk_get (ci := 2) (v := .ref aL) (C := RX2) (T := TX2) (N := 5) hx hb hts iX2 hown hK hq 0 rfl rfl 3 (by decide) lk0_ rfl dX2_nextSign_1 ?_
  refine kk_get (ci := 1) (v := .int L_fault) (C := RX1) (T := TX1) (N := 5) hx hb hts iX1 hown hK hq 3 rfl rfl 2 (by decide) lk1_ rfl dX2_nextSign_4 ?_
  refine lv_iconst (v := -1) hx hb dX2_nextSign_7 (by decide) ?_
  refine lv_icmp_eq (tgt := 13) hx hb dX2_nextSign_8 (by decide) (fun c_1 => ?_) (fun c_1 => ?_)
  · skip
    refine kk_loop1 (fun N (at_ : Int32) (H : Heap) (locs : List Loc) (ls : Array Slot) => lpX2_nextSign_13 T_length fS (61) R_at = lpX2_nextSign_13 T_length fS N at_ ∧ (0 ≤ at_.toInt) ∧ (at_.toInt ≤ 60) ∧ (60 < at_.toInt + N) ∧ lv_has ls 1 [(0, .ref aR)] ∧ kAt G A s [(aR, .inr (2, [.ref rR_waiting, .int R_waitingCount, .ref aT, .ref aL, .int at_])), (aT, .inr (5, [.ref aS, .int T_length])), (aS, .inl (cS, 60, .inl fS)), (aL, .inr (1, [.ref rL_parts, .int L_count, .int L_fault, .ref rL_values, .int L_top]))] H locs) 13 (fun at_ => []) (fun at_ H locs ls hv => ?_) (fun N at_ H locs ls ih hv => ?_) (61) R_at _ _ _ ⟨rfl, q0, q1, (by omega), lv_sub hl [0] rfl, hq⟩
    · skip
      obtain ⟨hrel, ap0, ap1, hN, hl, hq⟩ := hv
      omega
    · skip
      obtain ⟨hrel, ap0, ap1, hN, hl, hq⟩ := hv
      refine lv_aload_n hx hb dX2_nextSign_13 rfl (lv_at hl 0 rfl) ?_
      refine kk_get (ci := 2) (v := .int at_) (C := RX2) (T := TX2) (N := 5) hx hb hts iX2 hown hK hq 0 rfl rfl 4 (by decide) lk2_ rfl dX2_nextSign_14 ?_
      refine lv_aload_n hx hb dX2_nextSign_17 rfl (lv_at hl 0 rfl) ?_
      refine kk_get (ci := 2) (v := .ref aT) (C := RX2) (T := TX2) (N := 5) hx hb hts iX2 hown hK hq 0 rfl rfl 2 (by decide) lk3_ rfl dX2_nextSign_18 ?_
      refine kk_get (ci := 5) (v := .int T_length) (C := RX5) (T := TX5) (N := 2) hx hb hts iX5 hown hK hq 1 rfl rfl 1 (by decide) lk4_ rfl dX2_nextSign_21 ?_
      refine lv_icmp_ge (tgt := 56) hx hb dX2_nextSign_24 (by decide) (fun c_2 => ?_) (fun c_2 => ?_)
      · skip
        have hx_3 : (at_ : Int32) = lpX2_nextSign_13 T_length fS (61) R_at := (hrel.trans ((if_pos c_2))).symm
        obtain ⟨z_4, gz_4⟩ : ∃ z : Int32, z = at_ := ⟨_, rfl⟩
        have ez_4 : z_4 = lpX2_nextSign_13 T_length fS (61) R_at := gz_4.trans hx_3
        have hl : lv_has ls 1 [(0, .ref aR)] := by subst gz_4; exact hl
        have hq : kAt G A s [(aR, .inr (2, [.ref rR_waiting, .int R_waitingCount, .ref aT, .ref aL, .int z_4])), (aT, .inr (5, [.ref aS, .int T_length])), (aS, .inl (cS, 60, .inl fS)), (aL, .inr (1, [.ref rL_parts, .int L_count, .int L_fault, .ref rL_values, .int L_top]))] H locs := by subst gz_4; exact hq
        have q0f : 0 ≤ z_4.toInt := by subst gz_4; exact ap0
        have q1f : z_4.toInt ≤ 60 := by subst gz_4; exact ap1
        refine lv_aload_n hx hb dX2_nextSign_56 rfl (lv_at hl 0 rfl) ?_
        refine kk_get (ci := 2) (v := .ref aT) (C := RX2) (T := TX2) (N := 5) hx hb hts iX2 hown hK hq 0 rfl rfl 2 (by decide) lk3_ rfl dX2_nextSign_57 ?_
        refine lv_aload_n hx hb dX2_nextSign_60 rfl (lv_at hl 0 rfl) ?_
        refine kk_get (ci := 2) (v := .int z_4) (C := RX2) (T := TX2) (N := 5) hx hb hts iX2 hown hK hq 0 rfl rfl 4 (by decide) lk2_ rfl dX2_nextSign_61 ?_
        refine kk_Vi (As := [.int z_4]) (rest := []) (wr := [(aR, .inr (2, [.ref rR_waiting, .int R_waitingCount, .ref aT, .ref aL, .int z_4])), (aL, .inr (1, [.ref rL_parts, .int L_count, .int L_fault, .ref rL_values, .int L_top]))]) ⟨hx, hb, hml, hown, hts⟩ (c_X5_signAt l G aT aS cS z_4 T_length fS (by assumption)) (kk_cwV 1 hts hsb wd_201 wd_202 wd_203 wd_52 wd_204 rfl rfl hd_X5_signAt ⟨Nat.le_of_ble_eq_true rfl, Nat.le_of_ble_eq_true rfl⟩) hA hK hq [1, 2] [0, 3] [0] rfl rfl rfl (by decide) (by decide) (by decide) 0 5 rfl rfl rfl rfl hl.1 rfl (Nat.le_of_ble_eq_true rfl) dX2_nextSign_64 ⟨Nat.zero_le _, Nat.zero_le _⟩ (fun r_6 u_5 H locs h_7 hq => ?_)
        have er_6 := h_7
        have hq : kAt G A s [(aR, .inr (2, [.ref rR_waiting, .int R_waitingCount, .ref aT, .ref aL, .int z_4])), (aL, .inr (1, [.ref rL_parts, .int L_count, .int L_fault, .ref rL_values, .int L_top])), (aT, .inr (5, [.ref aS, .int T_length])), (aS, .inl (cS, 60, .inl fS))] H locs := hq
        have hf : ((r_6, z_4) : Int32 × Int32) = fX2_nextSign R_at T_length fS L_fault := by
          exact ((if_pos c_1).trans ((congrArg (fun (z_4 : Int32) => ((let r_15 : Int32 := fX5_signAt z_4 T_length fS
  (r_15, z_4)) : Int32 × Int32)) ez_4.symm).trans ((congrArg (fun (r_6 : Int32) => (((r_6, z_4)) : Int32 × Int32)) er_6.symm)))).symm
        have en_0 : 0 ≤ z_4.toInt := by first | assumption | omega
        have en_1 : z_4.toInt ≤ 60 := by first | assumption | omega
        have en_2 : (r_6 : Int32) = -1 ∨ z_4.toInt < 60 := by rw [er_6]; exact sa_or (by assumption)
        exact kk_ei hx hb hr hlocks hK hq [0, 2, 3, 1] z_4 rfl (by decide) dX2_nextSign_67 ⟨congrArg Prod.fst hf, congrArg Prod.snd hf, en_0, en_1, en_2⟩
      · skip
        have hlt : at_.toInt < 60 := by have h := c_2; rw [il_le] at h; omega
        refine lv_aload_n hx hb dX2_nextSign_27 rfl (lv_at hl 0 rfl) ?_
        refine kk_get (ci := 2) (v := .ref aT) (C := RX2) (T := TX2) (N := 5) hx hb hts iX2 hown hK hq 0 rfl rfl 2 (by decide) lk3_ rfl dX2_nextSign_28 ?_
        refine lv_aload_n hx hb dX2_nextSign_31 rfl (lv_at hl 0 rfl) ?_
        refine kk_get (ci := 2) (v := .int at_) (C := RX2) (T := TX2) (N := 5) hx hb hts iX2 hown hK hq 0 rfl rfl 4 (by decide) lk2_ rfl dX2_nextSign_32 ?_
        refine kk_Vi (As := [.int at_]) (rest := []) (wr := [(aR, .inr (2, [.ref rR_waiting, .int R_waitingCount, .ref aT, .ref aL, .int at_])), (aL, .inr (1, [.ref rL_parts, .int L_count, .int L_fault, .ref rL_values, .int L_top]))]) ⟨hx, hb, hml, hown, hts⟩ (c_X5_signAt l G aT aS cS at_ T_length fS (by assumption)) (kk_cwV 1 hts hsb wd_201 wd_202 wd_203 wd_52 wd_204 rfl rfl hd_X5_signAt ⟨Nat.le_of_ble_eq_true rfl, Nat.le_of_ble_eq_true rfl⟩) hA hK hq [1, 2] [0, 3] [0] rfl rfl rfl (by decide) (by decide) (by decide) 0 5 rfl rfl rfl rfl hl.1 rfl (Nat.le_of_ble_eq_true rfl) dX2_nextSign_35 ⟨Nat.zero_le _, Nat.zero_le _⟩ (fun r_9 u_8 H locs h_10 hq => ?_)
        have er_9 := h_10
        have hq : kAt G A s [(aR, .inr (2, [.ref rR_waiting, .int R_waitingCount, .ref aT, .ref aL, .int at_])), (aL, .inr (1, [.ref rL_parts, .int L_count, .int L_fault, .ref rL_values, .int L_top])), (aT, .inr (5, [.ref aS, .int T_length])), (aS, .inl (cS, 60, .inl fS))] H locs := hq
        refine lv_bipush (v := 32) hx hb dX2_nextSign_38 (by decide) ?_
        refine lv_icmp_ne (tgt := 56) hx hb dX2_nextSign_40 (by decide) (fun c_11 => ?_) (fun c_11 => ?_)
        · skip
          have hx_12 : (at_ : Int32) = lpX2_nextSign_13 T_length fS (61) R_at := (hrel.trans ((if_neg c_2).trans ((congrArg (fun (r_9 : Int32) => ((if r_9 = 32 then (
    let at_7 : Int32 := at_ + 1
    lpX2_nextSign_13 T_length fS N at_7)
    else (
    at_)) : Int32)) er_9.symm).trans ((if_neg c_11))))).symm
          obtain ⟨z_13, gz_13⟩ : ∃ z : Int32, z = at_ := ⟨_, rfl⟩
          have ez_13 : z_13 = lpX2_nextSign_13 T_length fS (61) R_at := gz_13.trans hx_12
          have hl : lv_has ls 1 [(0, .ref aR)] := by subst gz_13; exact hl
          have hq : kAt G A s [(aR, .inr (2, [.ref rR_waiting, .int R_waitingCount, .ref aT, .ref aL, .int z_13])), (aL, .inr (1, [.ref rL_parts, .int L_count, .int L_fault, .ref rL_values, .int L_top])), (aT, .inr (5, [.ref aS, .int T_length])), (aS, .inl (cS, 60, .inl fS))] H locs := by subst gz_13; exact hq
          have q0f : 0 ≤ z_13.toInt := by subst gz_13; exact ap0
          have q1f : z_13.toInt ≤ 60 := by subst gz_13; exact ap1
          refine lv_aload_n hx hb dX2_nextSign_56 rfl (lv_at hl 0 rfl) ?_
          refine kk_get (ci := 2) (v := .ref aT) (C := RX2) (T := TX2) (N := 5) hx hb hts iX2 hown hK hq 0 rfl rfl 2 (by decide) lk3_ rfl dX2_nextSign_57 ?_
          refine lv_aload_n hx hb dX2_nextSign_60 rfl (lv_at hl 0 rfl) ?_
          refine kk_get (ci := 2) (v := .int z_13) (C := RX2) (T := TX2) (N := 5) hx hb hts iX2 hown hK hq 0 rfl rfl 4 (by decide) lk2_ rfl dX2_nextSign_61 ?_
          refine kk_Vi (As := [.int z_13]) (rest := []) (wr := [(aR, .inr (2, [.ref rR_waiting, .int R_waitingCount, .ref aT, .ref aL, .int z_13])), (aL, .inr (1, [.ref rL_parts, .int L_count, .int L_fault, .ref rL_values, .int L_top]))]) ⟨hx, hb, hml, hown, hts⟩ (c_X5_signAt l G aT aS cS z_13 T_length fS (by assumption)) (kk_cwV 1 hts hsb wd_201 wd_202 wd_203 wd_52 wd_204 rfl rfl hd_X5_signAt ⟨Nat.le_of_ble_eq_true rfl, Nat.le_of_ble_eq_true rfl⟩) hA hK hq [2, 3] [0, 1] [0] rfl rfl rfl (by decide) (by decide) (by decide) 0 5 rfl rfl rfl rfl hl.1 rfl (Nat.le_of_ble_eq_true rfl) dX2_nextSign_64 ⟨Nat.zero_le _, Nat.zero_le _⟩ (fun r_15 u_14 H locs h_16 hq => ?_)
          have er_15 := h_16
          have hq : kAt G A s [(aR, .inr (2, [.ref rR_waiting, .int R_waitingCount, .ref aT, .ref aL, .int z_13])), (aL, .inr (1, [.ref rL_parts, .int L_count, .int L_fault, .ref rL_values, .int L_top])), (aT, .inr (5, [.ref aS, .int T_length])), (aS, .inl (cS, 60, .inl fS))] H locs := hq
          have hf : ((r_15, z_13) : Int32 × Int32) = fX2_nextSign R_at T_length fS L_fault := by
            exact ((if_pos c_1).trans ((congrArg (fun (z_13 : Int32) => ((let r_15 : Int32 := fX5_signAt z_13 T_length fS
  (r_15, z_13)) : Int32 × Int32)) ez_13.symm).trans ((congrArg (fun (r_15 : Int32) => (((r_15, z_13)) : Int32 × Int32)) er_15.symm)))).symm
          have en_0 : 0 ≤ z_13.toInt := by first | assumption | omega
          have en_1 : z_13.toInt ≤ 60 := by first | assumption | omega
          have en_2 : (r_15 : Int32) = -1 ∨ z_13.toInt < 60 := by rw [er_15]; exact sa_or (by assumption)
          exact kk_ei hx hb hr hlocks hK hq [0, 2, 3, 1] z_13 rfl (by decide) dX2_nextSign_67 ⟨congrArg Prod.fst hf, congrArg Prod.snd hf, en_0, en_1, en_2⟩
        · skip
          refine lv_aload_n hx hb dX2_nextSign_43 rfl (lv_at hl 0 rfl) ?_
          refine lv_dup hx hb dX2_nextSign_44 rfl ?_
          refine kk_get (ci := 2) (v := .int at_) (C := RX2) (T := TX2) (N := 5) hx hb hts iX2 hown hK hq 0 rfl rfl 4 (by decide) lk2_ rfl dX2_nextSign_45 ?_
          refine lv_iconst (v := 1) hx hb dX2_nextSign_48 (by decide) ?_
          refine lv_iadd hx hb dX2_nextSign_49 ?_
          refine lv_topi (fun at_17 eat_17 => ?_)
          refine kk_put (ws' := [(aR, .inr (2, [.ref rR_waiting, .int R_waitingCount, .ref aT, .ref aL, .int at_17])), (aL, .inr (1, [.ref rL_parts, .int L_count, .int L_fault, .ref rL_values, .int L_top])), (aT, .inr (5, [.ref aS, .int T_length])), (aS, .inl (cS, 60, .inl fS))]) (ci := 2) (v := .int at_17) (C := RX2) (T := TX2) (N := 5) hx hb hts iX2 tyX2_ok nmX2 hown hK hq 0 rfl rfl 4 (by decide) lk2_ rfl rfl rfl (Nat.le_of_ble_eq_true rfl) dX2_nextSign_50 rfl (fun H locs hq => ?_)
          have hat_17 := at_inc eat_17 (by assumption) hlt
          have q0at_17 : 0 ≤ at_17.toInt := hat_17.1
          have q1at_17 : at_17.toInt ≤ 60 := hat_17.2
          refine lv_goto (tgt := 13) hx hb dX2_nextSign_53 (by decide) ?_
          exact ih at_17 _ _ _ ⟨(hrel.trans ((if_neg c_2).trans ((congrArg (fun (r_9 : Int32) => ((if r_9 = 32 then (
    let at_7 : Int32 := at_ + 1
    lpX2_nextSign_13 T_length fS N at_7)
    else (
    at_)) : Int32)) er_9.symm).trans ((if_pos c_11).trans ((congrArg (fun (at_17 : Int32) => ((lpX2_nextSign_13 T_length fS N at_17) : Int32)) eat_17.symm)))))), (by assumption), (by assumption), (by rw [eat_17]; have := kk_inc (x := at_) (by omega); omega), lv_sub hl [0] rfl, (kk_sub hq [0, 2, 3, 1] rfl (by decide))⟩
  · skip
    refine lv_iconst (v := -1) hx hb dX2_nextSign_11 (by decide) ?_
    have hf : (((-1), R_at) : Int32 × Int32) = fX2_nextSign R_at T_length fS L_fault := by
      exact ((if_neg c_1)).symm
    have en_0 : 0 ≤ R_at.toInt := by first | assumption | omega
    have en_1 : R_at.toInt ≤ 60 := by first | assumption | omega
    have en_2 : ((-1) : Int32) = -1 ∨ R_at.toInt < 60 := by exact Or.inl rfl
    exact kk_ei hx hb hr hlocks hK hq [0, 1, 2, 3] R_at rfl (by decide) dX2_nextSign_12 ⟨congrArg Prod.fst hf, congrArg Prod.snd hf, en_0, en_1, en_2⟩
theorem hd_X1_addNumber : yX1_addNumber.cls = RX1 ∧ yX1_addNumber.cls ≠ "java/lang/invoke/MethodHandle" ∧ yX1_addNumber.cls ≠ "java/lang/invoke/VarHandle" ∧ (parseMethodDescriptor yX1_addNumber.desc).map (fun d => d.parameters.length) = some 1 := by decide +kernel
theorem hd_X2_isDigit : yX2_isDigit.cls ≠ "java/lang/invoke/MethodHandle" ∧ yX2_isDigit.cls ≠ "java/lang/invoke/VarHandle" ∧ (parseMethodDescriptor yX2_isDigit.desc).map (fun d => d.parameters.length) = some 1 := by decide +kernel
theorem hd_X2_refuse : yX2_refuse.cls = RX2 ∧ yX2_refuse.cls ≠ "java/lang/invoke/MethodHandle" ∧ yX2_refuse.cls ≠ "java/lang/invoke/VarHandle" ∧ (parseMethodDescriptor yX2_refuse.desc).map (fun d => d.parameters.length) = some 2 := by decide +kernel
def lpX2_readNumber_9 (T_length : Int32) (fS : Nat → Int32) : Nat → Int32 → Int32 → Int32 → Int32 × Int32 × Int32
  | 0, _, _, _ => (0, 0, 0)
  | N + 1, i, nu, at_ =>
    if 6 ≤ i then (
    (i, nu, at_))
    else (
    let r_3 : Int32 := fX5_signAt at_ T_length fS
    let r_6 : Int32 := fX2_isDigit r_3
    if r_6 = 0 then (
    (i, nu, at_))
    else (
    let r_10 : Int32 := fX5_signAt at_ T_length fS
    let x2_12 : Int32 := ((10 * nu) + r_10) - 48
    let at_13 : Int32 := at_ + 1
    lpX2_readNumber_9 T_length fS N (i + 1) x2_12 at_13))

def fX2_readNumber (R_at : Int32) (T_length : Int32) (fS : Nat → Int32) (L_count : Int32) (L_fault : Int32) (fP : Nat → Int32) : Int32 × Int32 × Int32 × (Nat → Int32) :=
  let z_27 : Int32 × Int32 × Int32 := lpX2_readNumber_9 T_length fS (7) 0 0 R_at
  let r_29 : Int32 := fX5_signAt z_27.2.2 T_length fS
  let r_32 : Int32 := fX2_isDigit r_29
  let fault_35 : Int32 := if r_32 = 0 then L_fault else (fX2_refuse R_at 2 L_fault)
  let u_37 : Int32 × (Nat → Int32) := fX1_addNumber z_27.2.1 L_count fP
  (z_27.2.2, u_37.1, fault_35, u_37.2)

set_option maxHeartbeats 4000000 in
set_option maxRecDepth 100000 in
theorem c_X2_readNumber (l : Launch) (G : va_G) (aR aT aS aL aP rR_waiting rL_values : Nat) (cS cP : ClassId) (R_waitingCount : Int32) (R_at : Int32) (T_length : Int32) (fS : Nat → Int32) (L_count : Int32) (L_fault : Int32) (L_top : Int32) (fP : Nat → Int32) (q0 : 0 ≤ R_at.toInt) (q1 : R_at.toInt ≤ 60) (n1 : T_length.toInt ≤ 60) (k0 : 0 ≤ L_count.toInt) (k1 : L_count.toInt ≤ 60) : kCv l yX2_readNumber (Cond.code yX2_readNumber cX2_readNumber 4 none :: wsL_law) ({ frames := 2, cells := 0, slots := 0, locals := 42 }) G [(cS, .int), (cP, .int)] [.ref aR] [(aR, .inr (2, [.ref rR_waiting, .int R_waitingCount, .ref aT, .ref aL, .int R_at])), (aT, .inr (5, [.ref aS, .int T_length])), (aS, .inl (cS, 60, .inl fS)), (aL, .inr (1, [.ref aP, .int L_count, .int L_fault, .ref rL_values, .int L_top])), (aP, .inl (cP, 60, .inl fP))] (fun (u : Int32 × Int32 × Int32 × (Nat → Int32)) => u = fX2_readNumber R_at T_length fS L_count L_fault fP ∧ (0 ≤ u.1.toInt) ∧ (u.1.toInt ≤ 60) ∧ (0 ≤ u.2.1.toInt) ∧ (u.2.1.toInt ≤ 60)) (fun (u : Int32 × Int32 × Int32 × (Nat → Int32)) => [(aR, .inr (2, [.ref rR_waiting, .int R_waitingCount, .ref aT, .ref aL, .int u.1])), (aT, .inr (5, [.ref aS, .int T_length])), (aS, .inl (cS, 60, .inl fS)), (aL, .inr (1, [.ref aP, .int u.2.1, .int u.2.2.1, .ref rL_values, .int L_top])), (aP, .inl (cP, 60, .inl u.2.2.2))]) := by
  intro sz
  refine Met.ofW (cc := cX2_readNumber) (maxL := 4) (ret := none) (by decide) rfl ?_
  intro p e s m args below meth c s₁ B hml hv
  obtain ⟨rfl, hv⟩ := hv
  obtain ⟨rfl, hK, hq, hA⟩ := kk_begin hv
  have hx := B.exec
  have hb := B.bytes
  have hr := B.returns
  have hts := atoms_spec (ws := (Cond.code yX2_readNumber cX2_readNumber 4 none :: wsL_law)) B.pre
  have hown : s.vm.findClass RX2 = some m.cls := findClass_of_methodNamed B.named
  have hlocks := B.notSynchronized
  have hsb : ∀ w ∈ wsL_law, w ∈ (Cond.code yX2_readNumber cX2_readNumber 4 none :: wsL_law) := fun _ h => List.mem_cons_of_mem _ h
  generalize va_A [(aR, .inr (2, [.ref rR_waiting, .int R_waitingCount, .ref aT, .ref aL, .int R_at])), (aT, .inr (5, [.ref aS, .int T_length])), (aS, .inl (cS, 60, .inl fS)), (aL, .inr (1, [.ref aP, .int L_count, .int L_fault, .ref rL_values, .int L_top])), (aP, .inl (cP, 60, .inl fP))] s.heap.size = A at hq hA ⊢
  have iX2 : ∀ w ∈ u_ws RX2 TX2 5, w ∈ (Cond.code yX2_readNumber cX2_readNumber 4 none :: wsL_law) := fun w h => hsb w (bin_X2 w h)
  have lk0_ := hts _ (hsb _ wd_110)
  have lk1_ := hts _ (hsb _ wd_111)
  have lk2_ := hts _ (hsb _ wd_112)
  have hl := lv_entry ([.ref aR]) (n := 4) (Nat.le_of_ble_eq_true rfl)
  rw [lg_entry_eq]
  generalize (lg_sl ([.ref aR]) ++ List.replicate (4 - (lg_sl ([.ref aR])).length) Slot.unset).toArray = ls at hl ⊢
  have hl : lv_has ls 4 [(0, .ref aR)] := hl
  refine lv_aload_n hx hb dX2_readNumber_0 rfl (lv_at hl 0 rfl) ?_
  refine kk_get (ci := 2) (v := .int R_at) (C := RX2) (T := TX2) (N := 5) hx hb hts iX2 hown hK hq 0 rfl rfl 4 (by decide) lk0_ rfl dX2_readNumber_1 ?_
  refine lv_istore_n (lv' := [(1, .int R_at), (0, .ref aR)]) hx hb dX2_readNumber_4 rfl hl (by decide) rfl (fun ls hl => ?_)
  refine lv_iconst (v := 0) hx hb dX2_readNumber_5 (by decide) ?_
  refine lv_istore_n (lv' := [(2, .int 0), (1, .int R_at), (0, .ref aR)]) hx hb dX2_readNumber_6 rfl hl (by decide) rfl (fun ls hl => ?_)
  refine lv_iconst (v := 0) hx hb dX2_readNumber_7 (by decide) ?_
  refine lv_istore_n (lv' := [(3, .int 0), (2, .int 0), (1, .int R_at), (0, .ref aR)]) hx hb dX2_readNumber_8 rfl hl (by decide) rfl (fun ls hl => ?_)
  refine kk_loop3 (fun N (i : Int32) (nu : Int32) (at_ : Int32) (H : Heap) (locs : List Loc) (ls : Array Slot) => lpX2_readNumber_9 T_length fS (7) 0 0 R_at = lpX2_readNumber_9 T_length fS N i nu at_ ∧ (0 ≤ i.toInt) ∧ (i.toInt ≤ 6) ∧ (i.toInt + N = 7) ∧ (0 ≤ at_.toInt) ∧ (at_.toInt ≤ 60) ∧ lv_has ls 4 [(3, .int i), (2, .int nu), (1, .int R_at), (0, .ref aR)] ∧ kAt G A s [(aR, .inr (2, [.ref rR_waiting, .int R_waitingCount, .ref aT, .ref aL, .int at_])), (aT, .inr (5, [.ref aS, .int T_length])), (aS, .inl (cS, 60, .inl fS)), (aL, .inr (1, [.ref aP, .int L_count, .int L_fault, .ref rL_values, .int L_top])), (aP, .inl (cP, 60, .inl fP))] H locs) 9 (fun i nu at_ => []) (fun i nu at_ H locs ls hv => ?_) (fun N i nu at_ H locs ls ih hv => ?_) (7) 0 0 R_at _ _ _ ⟨rfl, (by decide), (by decide), (by decide), q0, q1, lv_sub hl [0, 1, 2, 3] rfl, hq⟩
  · skip
    obtain ⟨hrel, i0, i1, hN, ap0, ap1, hl, hq⟩ := hv
    omega
  · skip
    obtain ⟨hrel, i0, i1, hN, ap0, ap1, hl, hq⟩ := hv
    refine lv_iload_n hx hb dX2_readNumber_9 rfl (lv_at hl 0 rfl) ?_
    refine lv_bipush (v := 6) hx hb dX2_readNumber_10 (by decide) ?_
    refine lv_icmp_ge (tgt := 68) hx hb dX2_readNumber_12 (by decide) (fun c_1 => ?_) (fun c_1 => ?_)
    · skip
      have hx_2 : ((i, nu, at_) : Int32 × Int32 × Int32) = lpX2_readNumber_9 T_length fS (7) 0 0 R_at := (hrel.trans ((if_pos c_1))).symm
      obtain ⟨z_3, gz_3⟩ : ∃ z : Int32 × Int32 × Int32, z = (i, nu, at_) := ⟨_, rfl⟩
      have ez_3 : z_3 = lpX2_readNumber_9 T_length fS (7) 0 0 R_at := gz_3.trans hx_2
      have hl : lv_has ls 4 [(3, .int z_3.1), (2, .int z_3.2.1), (1, .int R_at), (0, .ref aR)] := by subst gz_3; exact hl
      have hq : kAt G A s [(aR, .inr (2, [.ref rR_waiting, .int R_waitingCount, .ref aT, .ref aL, .int z_3.2.2])), (aT, .inr (5, [.ref aS, .int T_length])), (aS, .inl (cS, 60, .inl fS)), (aL, .inr (1, [.ref aP, .int L_count, .int L_fault, .ref rL_values, .int L_top])), (aP, .inl (cP, 60, .inl fP))] H locs := by subst gz_3; exact hq
      have q0f : 0 ≤ z_3.2.2.toInt := by subst gz_3; exact ap0
      have q1f : z_3.2.2.toInt ≤ 60 := by subst gz_3; exact ap1
      refine lv_aload_n hx hb dX2_readNumber_68 rfl (lv_at hl 3 rfl) ?_
      refine kk_get (ci := 2) (v := .ref aT) (C := RX2) (T := TX2) (N := 5) hx hb hts iX2 hown hK hq 0 rfl rfl 2 (by decide) lk1_ rfl dX2_readNumber_69 ?_
      refine lv_aload_n hx hb dX2_readNumber_72 rfl (lv_at hl 3 rfl) ?_
      refine kk_get (ci := 2) (v := .int z_3.2.2) (C := RX2) (T := TX2) (N := 5) hx hb hts iX2 hown hK hq 0 rfl rfl 4 (by decide) lk0_ rfl dX2_readNumber_73 ?_
      refine kk_Vi (As := [.int z_3.2.2]) (rest := []) (wr := [(aR, .inr (2, [.ref rR_waiting, .int R_waitingCount, .ref aT, .ref aL, .int z_3.2.2])), (aL, .inr (1, [.ref aP, .int L_count, .int L_fault, .ref rL_values, .int L_top])), (aP, .inl (cP, 60, .inl fP))]) ⟨hx, hb, hml, hown, hts⟩ (c_X5_signAt l G aT aS cS z_3.2.2 T_length fS (by assumption)) (kk_cwV 1 hts hsb wd_201 wd_202 wd_203 wd_52 wd_204 rfl rfl hd_X5_signAt ⟨Nat.le_of_ble_eq_true rfl, Nat.le_of_ble_eq_true rfl⟩) hA hK hq [1, 2] [0, 3, 4] [0] rfl rfl rfl (by decide) (by decide) (by decide) 0 5 rfl rfl rfl rfl hl.1 rfl (Nat.le_of_ble_eq_true rfl) dX2_readNumber_76 ⟨Nat.zero_le _, Nat.zero_le _⟩ (fun r_5 u_4 H locs h_6 hq => ?_)
      have er_5 := h_6
      have hq : kAt G A s [(aR, .inr (2, [.ref rR_waiting, .int R_waitingCount, .ref aT, .ref aL, .int z_3.2.2])), (aL, .inr (1, [.ref aP, .int L_count, .int L_fault, .ref rL_values, .int L_top])), (aP, .inl (cP, 60, .inl fP)), (aT, .inr (5, [.ref aS, .int T_length])), (aS, .inl (cS, 60, .inl fS))] H locs := hq
      refine kk_Si (As := [.int r_5]) (rest := []) (wr := [(aR, .inr (2, [.ref rR_waiting, .int R_waitingCount, .ref aT, .ref aL, .int z_3.2.2])), (aL, .inr (1, [.ref aP, .int L_count, .int L_fault, .ref rL_values, .int L_top])), (aP, .inl (cP, 60, .inl fP)), (aT, .inr (5, [.ref aS, .int T_length])), (aS, .inl (cS, 60, .inl fS))]) ⟨hx, hb, hml, hown, hts⟩ (c_X2_isDigit l G r_5) (kk_cwS 1 hts hsb wd_218 wd_219 wd_25 wd_220 rfl rfl hd_X2_isDigit ⟨Nat.le_of_ble_eq_true rfl, Nat.le_of_ble_eq_true rfl⟩) hA hK hq [] [0, 1, 2, 3, 4] [] rfl rfl rfl (by decide) (by decide) (by decide) rfl hl.1 rfl (Nat.le_of_ble_eq_true rfl) dX2_readNumber_79 ⟨Nat.zero_le _, Nat.zero_le _⟩ (fun r_8 u_7 H locs h_9 hq => ?_)
      obtain ⟨er_8, zr_8⟩ := h_9
      have hq : kAt G A s [(aR, .inr (2, [.ref rR_waiting, .int R_waitingCount, .ref aT, .ref aL, .int z_3.2.2])), (aL, .inr (1, [.ref aP, .int L_count, .int L_fault, .ref rL_values, .int L_top])), (aP, .inl (cP, 60, .inl fP)), (aT, .inr (5, [.ref aS, .int T_length])), (aS, .inl (cS, 60, .inl fS))] H locs := hq
      refine kk_join1 (fun (fault_11 : Int32) (H : Heap) (locs : List Loc) (ls : Array Slot) => fault_11 = (if r_8 = 0 then L_fault else (fX2_refuse R_at 2 L_fault)) ∧ lv_has ls 4 [(3, .int z_3.1), (2, .int z_3.2.1), (1, .int R_at), (0, .ref aR)] ∧ kAt G A s [(aR, .inr (2, [.ref rR_waiting, .int R_waitingCount, .ref aT, .ref aL, .int z_3.2.2])), (aL, .inr (1, [.ref aP, .int L_count, .int fault_11, .ref rL_values, .int L_top])), (aP, .inl (cP, 60, .inl fP)), (aT, .inr (5, [.ref aS, .int T_length])), (aS, .inl (cS, 60, .inl fS))] H locs) 91 (fun fault_11 => []) (fun fault_11 H locs ls hv => ?_) (fun J_12 => ?_)
      · skip
        obtain ⟨efault_11, hl, hq⟩ := hv
        refine lv_aload_n hx hb dX2_readNumber_91 rfl (lv_at hl 3 rfl) ?_
        refine kk_get (ci := 2) (v := .ref aL) (C := RX2) (T := TX2) (N := 5) hx hb hts iX2 hown hK hq 0 rfl rfl 3 (by decide) lk2_ rfl dX2_readNumber_92 ?_
        refine lv_iload_n hx hb dX2_readNumber_95 rfl (lv_at hl 1 rfl) ?_
        refine kk_Vv (As := [.int z_3.2.1]) (rest := []) (wr := [(aR, .inr (2, [.ref rR_waiting, .int R_waitingCount, .ref aT, .ref aL, .int z_3.2.2])), (aT, .inr (5, [.ref aS, .int T_length])), (aS, .inl (cS, 60, .inl fS))]) ⟨hx, hb, hml, hown, hts⟩ (c_X1_addNumber l G aL aP rL_values cP z_3.2.1 L_count fault_11 L_top fP (by assumption) (by assumption)) (kk_cwV 1 hts hsb wd_229 wd_230 wd_231 wd_21 wd_232 rfl rfl hd_X1_addNumber ⟨Nat.le_of_ble_eq_true rfl, Nat.le_of_ble_eq_true rfl⟩) hA hK hq [1, 2] [0, 3, 4] [1] rfl rfl rfl (by decide) (by decide) (by decide) 0 1 rfl rfl rfl rfl hl.1 rfl (Nat.le_of_ble_eq_true rfl) dX2_readNumber_96 ⟨Nat.zero_le _, Nat.zero_le _⟩ (fun u_13 H locs h_15 hq => ?_)
        obtain ⟨eu_13, k0_u_13, k1_u_13⟩ := h_15
        have hq : kAt G A s [(aR, .inr (2, [.ref rR_waiting, .int R_waitingCount, .ref aT, .ref aL, .int z_3.2.2])), (aT, .inr (5, [.ref aS, .int T_length])), (aS, .inl (cS, 60, .inl fS)), (aL, .inr (1, [.ref aP, .int u_13.1, .int fault_11, .ref rL_values, .int L_top])), (aP, .inl (cP, 60, .inl u_13.2))] H locs := hq
        have hf : ((z_3.2.2, u_13.1, fault_11, u_13.2) : Int32 × Int32 × Int32 × (Nat → Int32)) = fX2_readNumber R_at T_length fS L_count L_fault fP := by
          exact ((congrArg (fun (z_3 : Int32 × Int32 × Int32) => ((let r_29 : Int32 := fX5_signAt z_3.2.2 T_length fS
  let r_32 : Int32 := fX2_isDigit r_29
  let fault_35 : Int32 := if r_32 = 0 then L_fault else (fX2_refuse R_at 2 L_fault)
  let u_37 : Int32 × (Nat → Int32) := fX1_addNumber z_3.2.1 L_count fP
  (z_3.2.2, u_37.1, fault_35, u_37.2)) : Int32 × Int32 × Int32 × (Nat → Int32))) ez_3.symm).trans ((congrArg (fun (r_5 : Int32) => ((let r_32 : Int32 := fX2_isDigit r_5
  let fault_35 : Int32 := if r_32 = 0 then L_fault else (fX2_refuse R_at 2 L_fault)
  let u_37 : Int32 × (Nat → Int32) := fX1_addNumber z_3.2.1 L_count fP
  (z_3.2.2, u_37.1, fault_35, u_37.2)) : Int32 × Int32 × Int32 × (Nat → Int32))) er_5.symm).trans ((congrArg (fun (r_8 : Int32) => ((let fault_35 : Int32 := if r_8 = 0 then L_fault else (fX2_refuse R_at 2 L_fault)
  let u_37 : Int32 × (Nat → Int32) := fX1_addNumber z_3.2.1 L_count fP
  (z_3.2.2, u_37.1, fault_35, u_37.2)) : Int32 × Int32 × Int32 × (Nat → Int32))) er_8.symm).trans ((congrArg (fun (fault_11 : Int32) => ((let u_37 : Int32 × (Nat → Int32) := fX1_addNumber z_3.2.1 L_count fP
  (z_3.2.2, u_37.1, fault_11, u_37.2)) : Int32 × Int32 × Int32 × (Nat → Int32))) efault_11.symm).trans ((congrArg (fun (u_13 : Int32 × (Nat → Int32)) => (((z_3.2.2, u_13.1, fault_11, u_13.2)) : Int32 × Int32 × Int32 × (Nat → Int32))) eu_13.symm)))))).symm
        have en_0 : 0 ≤ z_3.2.2.toInt := by first | assumption | omega
        have en_1 : z_3.2.2.toInt ≤ 60 := by first | assumption | omega
        have en_2 : 0 ≤ u_13.1.toInt := by first | assumption | omega
        have en_3 : u_13.1.toInt ≤ 60 := by first | assumption | omega
        exact kk_ev hx hb hr hlocks hK hq [0, 1, 2, 3, 4] (z_3.2.2, u_13.1, fault_11, u_13.2) rfl (by decide) dX2_readNumber_99 ⟨hf, en_0, en_1, en_2, en_3⟩
      · skip
        refine lv_if_eq (tgt := 91) hx hb dX2_readNumber_82 (by decide) (fun c_10 => ?_) (fun c_10 => ?_)
        · skip
          exact J_12 L_fault _ _ _ ⟨(if_pos c_10).symm, lv_sub hl [0, 1, 2, 3] rfl, hq⟩
        · skip
          refine lv_aload_n hx hb dX2_readNumber_85 rfl (lv_at hl 3 rfl) ?_
          refine lv_iload_n hx hb dX2_readNumber_86 rfl (lv_at hl 2 rfl) ?_
          refine lv_iconst (v := 2) hx hb dX2_readNumber_87 (by decide) ?_
          refine kk_Vv (As := [.int R_at, .int 2]) (rest := []) (wr := [(aP, .inl (cP, 60, .inl fP)), (aT, .inr (5, [.ref aS, .int T_length])), (aS, .inl (cS, 60, .inl fS))]) ⟨hx, hb, hml, hown, hts⟩ (c_X2_refuse l G aR aL rR_waiting aT aP rL_values R_at 2 R_waitingCount z_3.2.2 L_count L_fault L_top) (kk_cwV 2 hts hsb wd_225 wd_226 wd_227 wd_25 wd_228 rfl rfl hd_X2_refuse ⟨Nat.le_of_ble_eq_true rfl, Nat.le_of_ble_eq_true rfl⟩) hA hK hq [0, 1] [2, 3, 4] [] rfl rfl rfl (by decide) (by decide) (by decide) 0 2 rfl rfl rfl rfl hl.1 rfl (Nat.le_of_ble_eq_true rfl) dX2_readNumber_88 ⟨Nat.zero_le _, Nat.zero_le _⟩ (fun u_16 H locs h_18 hq => ?_)
          obtain rfl := h_18
          have hq : kAt G A s [(aP, .inl (cP, 60, .inl fP)), (aT, .inr (5, [.ref aS, .int T_length])), (aS, .inl (cS, 60, .inl fS)), (aR, .inr (2, [.ref rR_waiting, .int R_waitingCount, .ref aT, .ref aL, .int z_3.2.2])), (aL, .inr (1, [.ref aP, .int L_count, .int (fX2_refuse R_at 2 L_fault), .ref rL_values, .int L_top]))] H locs := hq
          exact J_12 (fX2_refuse R_at 2 L_fault) _ _ _ ⟨(if_neg c_10).symm, lv_sub hl [0, 1, 2, 3] rfl, (kk_sub hq [3, 4, 0, 1, 2] rfl (by decide))⟩
    · skip
      have hi6 := kk_nle (k := 6) rfl c_1
      refine lv_aload_n hx hb dX2_readNumber_15 rfl (lv_at hl 3 rfl) ?_
      refine kk_get (ci := 2) (v := .ref aT) (C := RX2) (T := TX2) (N := 5) hx hb hts iX2 hown hK hq 0 rfl rfl 2 (by decide) lk1_ rfl dX2_readNumber_16 ?_
      refine lv_aload_n hx hb dX2_readNumber_19 rfl (lv_at hl 3 rfl) ?_
      refine kk_get (ci := 2) (v := .int at_) (C := RX2) (T := TX2) (N := 5) hx hb hts iX2 hown hK hq 0 rfl rfl 4 (by decide) lk0_ rfl dX2_readNumber_20 ?_
      refine kk_Vi (As := [.int at_]) (rest := []) (wr := [(aR, .inr (2, [.ref rR_waiting, .int R_waitingCount, .ref aT, .ref aL, .int at_])), (aL, .inr (1, [.ref aP, .int L_count, .int L_fault, .ref rL_values, .int L_top])), (aP, .inl (cP, 60, .inl fP))]) ⟨hx, hb, hml, hown, hts⟩ (c_X5_signAt l G aT aS cS at_ T_length fS (by assumption)) (kk_cwV 1 hts hsb wd_201 wd_202 wd_203 wd_52 wd_204 rfl rfl hd_X5_signAt ⟨Nat.le_of_ble_eq_true rfl, Nat.le_of_ble_eq_true rfl⟩) hA hK hq [1, 2] [0, 3, 4] [0] rfl rfl rfl (by decide) (by decide) (by decide) 0 5 rfl rfl rfl rfl hl.1 rfl (Nat.le_of_ble_eq_true rfl) dX2_readNumber_23 ⟨Nat.zero_le _, Nat.zero_le _⟩ (fun r_20 u_19 H locs h_21 hq => ?_)
      have er_20 := h_21
      have hq : kAt G A s [(aR, .inr (2, [.ref rR_waiting, .int R_waitingCount, .ref aT, .ref aL, .int at_])), (aL, .inr (1, [.ref aP, .int L_count, .int L_fault, .ref rL_values, .int L_top])), (aP, .inl (cP, 60, .inl fP)), (aT, .inr (5, [.ref aS, .int T_length])), (aS, .inl (cS, 60, .inl fS))] H locs := hq
      have sr_20 := er_20
      refine kk_Si (As := [.int r_20]) (rest := []) (wr := [(aR, .inr (2, [.ref rR_waiting, .int R_waitingCount, .ref aT, .ref aL, .int at_])), (aL, .inr (1, [.ref aP, .int L_count, .int L_fault, .ref rL_values, .int L_top])), (aP, .inl (cP, 60, .inl fP)), (aT, .inr (5, [.ref aS, .int T_length])), (aS, .inl (cS, 60, .inl fS))]) ⟨hx, hb, hml, hown, hts⟩ (c_X2_isDigit l G r_20) (kk_cwS 1 hts hsb wd_218 wd_219 wd_25 wd_220 rfl rfl hd_X2_isDigit ⟨Nat.le_of_ble_eq_true rfl, Nat.le_of_ble_eq_true rfl⟩) hA hK hq [] [0, 1, 2, 3, 4] [] rfl rfl rfl (by decide) (by decide) (by decide) rfl hl.1 rfl (Nat.le_of_ble_eq_true rfl) dX2_readNumber_26 ⟨Nat.zero_le _, Nat.zero_le _⟩ (fun r_23 u_22 H locs h_24 hq => ?_)
      obtain ⟨er_23, zr_23⟩ := h_24
      have hq : kAt G A s [(aR, .inr (2, [.ref rR_waiting, .int R_waitingCount, .ref aT, .ref aL, .int at_])), (aL, .inr (1, [.ref aP, .int L_count, .int L_fault, .ref rL_values, .int L_top])), (aP, .inl (cP, 60, .inl fP)), (aT, .inr (5, [.ref aS, .int T_length])), (aS, .inl (cS, 60, .inl fS))] H locs := hq
      have dr_23 := er_23
      refine lv_if_eq (tgt := 68) hx hb dX2_readNumber_29 (by decide) (fun c_25 => ?_) (fun c_25 => ?_)
      · skip
        have hx_26 : ((i, nu, at_) : Int32 × Int32 × Int32) = lpX2_readNumber_9 T_length fS (7) 0 0 R_at := (hrel.trans ((if_neg c_1).trans ((congrArg (fun (r_20 : Int32) => ((let r_6 : Int32 := fX2_isDigit r_20
    if r_6 = 0 then (
    (i, nu, at_))
    else (
    let r_10 : Int32 := fX5_signAt at_ T_length fS
    let x2_12 : Int32 := ((10 * nu) + r_10) - 48
    let at_13 : Int32 := at_ + 1
    lpX2_readNumber_9 T_length fS N (i + 1) x2_12 at_13)) : Int32 × Int32 × Int32)) er_20.symm).trans ((congrArg (fun (r_23 : Int32) => ((if r_23 = 0 then (
    (i, nu, at_))
    else (
    let r_10 : Int32 := fX5_signAt at_ T_length fS
    let x2_12 : Int32 := ((10 * nu) + r_10) - 48
    let at_13 : Int32 := at_ + 1
    lpX2_readNumber_9 T_length fS N (i + 1) x2_12 at_13)) : Int32 × Int32 × Int32)) er_23.symm).trans ((if_pos c_25)))))).symm
        obtain ⟨z_27, gz_27⟩ : ∃ z : Int32 × Int32 × Int32, z = (i, nu, at_) := ⟨_, rfl⟩
        have ez_27 : z_27 = lpX2_readNumber_9 T_length fS (7) 0 0 R_at := gz_27.trans hx_26
        have hl : lv_has ls 4 [(3, .int z_27.1), (2, .int z_27.2.1), (1, .int R_at), (0, .ref aR)] := by subst gz_27; exact hl
        have hq : kAt G A s [(aR, .inr (2, [.ref rR_waiting, .int R_waitingCount, .ref aT, .ref aL, .int z_27.2.2])), (aL, .inr (1, [.ref aP, .int L_count, .int L_fault, .ref rL_values, .int L_top])), (aP, .inl (cP, 60, .inl fP)), (aT, .inr (5, [.ref aS, .int T_length])), (aS, .inl (cS, 60, .inl fS))] H locs := by subst gz_27; exact hq
        have q0f : 0 ≤ z_27.2.2.toInt := by subst gz_27; exact ap0
        have q1f : z_27.2.2.toInt ≤ 60 := by subst gz_27; exact ap1
        refine lv_aload_n hx hb dX2_readNumber_68 rfl (lv_at hl 3 rfl) ?_
        refine kk_get (ci := 2) (v := .ref aT) (C := RX2) (T := TX2) (N := 5) hx hb hts iX2 hown hK hq 0 rfl rfl 2 (by decide) lk1_ rfl dX2_readNumber_69 ?_
        refine lv_aload_n hx hb dX2_readNumber_72 rfl (lv_at hl 3 rfl) ?_
        refine kk_get (ci := 2) (v := .int z_27.2.2) (C := RX2) (T := TX2) (N := 5) hx hb hts iX2 hown hK hq 0 rfl rfl 4 (by decide) lk0_ rfl dX2_readNumber_73 ?_
        refine kk_Vi (As := [.int z_27.2.2]) (rest := []) (wr := [(aR, .inr (2, [.ref rR_waiting, .int R_waitingCount, .ref aT, .ref aL, .int z_27.2.2])), (aL, .inr (1, [.ref aP, .int L_count, .int L_fault, .ref rL_values, .int L_top])), (aP, .inl (cP, 60, .inl fP))]) ⟨hx, hb, hml, hown, hts⟩ (c_X5_signAt l G aT aS cS z_27.2.2 T_length fS (by assumption)) (kk_cwV 1 hts hsb wd_201 wd_202 wd_203 wd_52 wd_204 rfl rfl hd_X5_signAt ⟨Nat.le_of_ble_eq_true rfl, Nat.le_of_ble_eq_true rfl⟩) hA hK hq [3, 4] [0, 1, 2] [0] rfl rfl rfl (by decide) (by decide) (by decide) 0 5 rfl rfl rfl rfl hl.1 rfl (Nat.le_of_ble_eq_true rfl) dX2_readNumber_76 ⟨Nat.zero_le _, Nat.zero_le _⟩ (fun r_29 u_28 H locs h_30 hq => ?_)
        have er_29 := h_30
        have hq : kAt G A s [(aR, .inr (2, [.ref rR_waiting, .int R_waitingCount, .ref aT, .ref aL, .int z_27.2.2])), (aL, .inr (1, [.ref aP, .int L_count, .int L_fault, .ref rL_values, .int L_top])), (aP, .inl (cP, 60, .inl fP)), (aT, .inr (5, [.ref aS, .int T_length])), (aS, .inl (cS, 60, .inl fS))] H locs := hq
        refine kk_Si (As := [.int r_29]) (rest := []) (wr := [(aR, .inr (2, [.ref rR_waiting, .int R_waitingCount, .ref aT, .ref aL, .int z_27.2.2])), (aL, .inr (1, [.ref aP, .int L_count, .int L_fault, .ref rL_values, .int L_top])), (aP, .inl (cP, 60, .inl fP)), (aT, .inr (5, [.ref aS, .int T_length])), (aS, .inl (cS, 60, .inl fS))]) ⟨hx, hb, hml, hown, hts⟩ (c_X2_isDigit l G r_29) (kk_cwS 1 hts hsb wd_218 wd_219 wd_25 wd_220 rfl rfl hd_X2_isDigit ⟨Nat.le_of_ble_eq_true rfl, Nat.le_of_ble_eq_true rfl⟩) hA hK hq [] [0, 1, 2, 3, 4] [] rfl rfl rfl (by decide) (by decide) (by decide) rfl hl.1 rfl (Nat.le_of_ble_eq_true rfl) dX2_readNumber_79 ⟨Nat.zero_le _, Nat.zero_le _⟩ (fun r_32 u_31 H locs h_33 hq => ?_)
        obtain ⟨er_32, zr_32⟩ := h_33
        have hq : kAt G A s [(aR, .inr (2, [.ref rR_waiting, .int R_waitingCount, .ref aT, .ref aL, .int z_27.2.2])), (aL, .inr (1, [.ref aP, .int L_count, .int L_fault, .ref rL_values, .int L_top])), (aP, .inl (cP, 60, .inl fP)), (aT, .inr (5, [.ref aS, .int T_length])), (aS, .inl (cS, 60, .inl fS))] H locs := hq
        refine kk_join1 (fun (fault_35 : Int32) (H : Heap) (locs : List Loc) (ls : Array Slot) => fault_35 = (if r_32 = 0 then L_fault else (fX2_refuse R_at 2 L_fault)) ∧ lv_has ls 4 [(3, .int z_27.1), (2, .int z_27.2.1), (1, .int R_at), (0, .ref aR)] ∧ kAt G A s [(aR, .inr (2, [.ref rR_waiting, .int R_waitingCount, .ref aT, .ref aL, .int z_27.2.2])), (aL, .inr (1, [.ref aP, .int L_count, .int fault_35, .ref rL_values, .int L_top])), (aP, .inl (cP, 60, .inl fP)), (aT, .inr (5, [.ref aS, .int T_length])), (aS, .inl (cS, 60, .inl fS))] H locs) 91 (fun fault_35 => []) (fun fault_35 H locs ls hv => ?_) (fun J_36 => ?_)
        · skip
          obtain ⟨efault_35, hl, hq⟩ := hv
          refine lv_aload_n hx hb dX2_readNumber_91 rfl (lv_at hl 3 rfl) ?_
          refine kk_get (ci := 2) (v := .ref aL) (C := RX2) (T := TX2) (N := 5) hx hb hts iX2 hown hK hq 0 rfl rfl 3 (by decide) lk2_ rfl dX2_readNumber_92 ?_
          refine lv_iload_n hx hb dX2_readNumber_95 rfl (lv_at hl 1 rfl) ?_
          refine kk_Vv (As := [.int z_27.2.1]) (rest := []) (wr := [(aR, .inr (2, [.ref rR_waiting, .int R_waitingCount, .ref aT, .ref aL, .int z_27.2.2])), (aT, .inr (5, [.ref aS, .int T_length])), (aS, .inl (cS, 60, .inl fS))]) ⟨hx, hb, hml, hown, hts⟩ (c_X1_addNumber l G aL aP rL_values cP z_27.2.1 L_count fault_35 L_top fP (by assumption) (by assumption)) (kk_cwV 1 hts hsb wd_229 wd_230 wd_231 wd_21 wd_232 rfl rfl hd_X1_addNumber ⟨Nat.le_of_ble_eq_true rfl, Nat.le_of_ble_eq_true rfl⟩) hA hK hq [1, 2] [0, 3, 4] [1] rfl rfl rfl (by decide) (by decide) (by decide) 0 1 rfl rfl rfl rfl hl.1 rfl (Nat.le_of_ble_eq_true rfl) dX2_readNumber_96 ⟨Nat.zero_le _, Nat.zero_le _⟩ (fun u_37 H locs h_39 hq => ?_)
          obtain ⟨eu_37, k0_u_37, k1_u_37⟩ := h_39
          have hq : kAt G A s [(aR, .inr (2, [.ref rR_waiting, .int R_waitingCount, .ref aT, .ref aL, .int z_27.2.2])), (aT, .inr (5, [.ref aS, .int T_length])), (aS, .inl (cS, 60, .inl fS)), (aL, .inr (1, [.ref aP, .int u_37.1, .int fault_35, .ref rL_values, .int L_top])), (aP, .inl (cP, 60, .inl u_37.2))] H locs := hq
          have hf : ((z_27.2.2, u_37.1, fault_35, u_37.2) : Int32 × Int32 × Int32 × (Nat → Int32)) = fX2_readNumber R_at T_length fS L_count L_fault fP := by
            exact ((congrArg (fun (z_27 : Int32 × Int32 × Int32) => ((let r_29 : Int32 := fX5_signAt z_27.2.2 T_length fS
  let r_32 : Int32 := fX2_isDigit r_29
  let fault_35 : Int32 := if r_32 = 0 then L_fault else (fX2_refuse R_at 2 L_fault)
  let u_37 : Int32 × (Nat → Int32) := fX1_addNumber z_27.2.1 L_count fP
  (z_27.2.2, u_37.1, fault_35, u_37.2)) : Int32 × Int32 × Int32 × (Nat → Int32))) ez_27.symm).trans ((congrArg (fun (r_29 : Int32) => ((let r_32 : Int32 := fX2_isDigit r_29
  let fault_35 : Int32 := if r_32 = 0 then L_fault else (fX2_refuse R_at 2 L_fault)
  let u_37 : Int32 × (Nat → Int32) := fX1_addNumber z_27.2.1 L_count fP
  (z_27.2.2, u_37.1, fault_35, u_37.2)) : Int32 × Int32 × Int32 × (Nat → Int32))) er_29.symm).trans ((congrArg (fun (r_32 : Int32) => ((let fault_35 : Int32 := if r_32 = 0 then L_fault else (fX2_refuse R_at 2 L_fault)
  let u_37 : Int32 × (Nat → Int32) := fX1_addNumber z_27.2.1 L_count fP
  (z_27.2.2, u_37.1, fault_35, u_37.2)) : Int32 × Int32 × Int32 × (Nat → Int32))) er_32.symm).trans ((congrArg (fun (fault_35 : Int32) => ((let u_37 : Int32 × (Nat → Int32) := fX1_addNumber z_27.2.1 L_count fP
  (z_27.2.2, u_37.1, fault_35, u_37.2)) : Int32 × Int32 × Int32 × (Nat → Int32))) efault_35.symm).trans ((congrArg (fun (u_37 : Int32 × (Nat → Int32)) => (((z_27.2.2, u_37.1, fault_35, u_37.2)) : Int32 × Int32 × Int32 × (Nat → Int32))) eu_37.symm)))))).symm
          have en_0 : 0 ≤ z_27.2.2.toInt := by first | assumption | omega
          have en_1 : z_27.2.2.toInt ≤ 60 := by first | assumption | omega
          have en_2 : 0 ≤ u_37.1.toInt := by first | assumption | omega
          have en_3 : u_37.1.toInt ≤ 60 := by first | assumption | omega
          exact kk_ev hx hb hr hlocks hK hq [0, 1, 2, 3, 4] (z_27.2.2, u_37.1, fault_35, u_37.2) rfl (by decide) dX2_readNumber_99 ⟨hf, en_0, en_1, en_2, en_3⟩
        · skip
          refine lv_if_eq (tgt := 91) hx hb dX2_readNumber_82 (by decide) (fun c_34 => ?_) (fun c_34 => ?_)
          · skip
            exact J_36 L_fault _ _ _ ⟨(if_pos c_34).symm, lv_sub hl [0, 1, 2, 3] rfl, hq⟩
          · skip
            refine lv_aload_n hx hb dX2_readNumber_85 rfl (lv_at hl 3 rfl) ?_
            refine lv_iload_n hx hb dX2_readNumber_86 rfl (lv_at hl 2 rfl) ?_
            refine lv_iconst (v := 2) hx hb dX2_readNumber_87 (by decide) ?_
            refine kk_Vv (As := [.int R_at, .int 2]) (rest := []) (wr := [(aP, .inl (cP, 60, .inl fP)), (aT, .inr (5, [.ref aS, .int T_length])), (aS, .inl (cS, 60, .inl fS))]) ⟨hx, hb, hml, hown, hts⟩ (c_X2_refuse l G aR aL rR_waiting aT aP rL_values R_at 2 R_waitingCount z_27.2.2 L_count L_fault L_top) (kk_cwV 2 hts hsb wd_225 wd_226 wd_227 wd_25 wd_228 rfl rfl hd_X2_refuse ⟨Nat.le_of_ble_eq_true rfl, Nat.le_of_ble_eq_true rfl⟩) hA hK hq [0, 1] [2, 3, 4] [] rfl rfl rfl (by decide) (by decide) (by decide) 0 2 rfl rfl rfl rfl hl.1 rfl (Nat.le_of_ble_eq_true rfl) dX2_readNumber_88 ⟨Nat.zero_le _, Nat.zero_le _⟩ (fun u_40 H locs h_42 hq => ?_)
            obtain rfl := h_42
            have hq : kAt G A s [(aP, .inl (cP, 60, .inl fP)), (aT, .inr (5, [.ref aS, .int T_length])), (aS, .inl (cS, 60, .inl fS)), (aR, .inr (2, [.ref rR_waiting, .int R_waitingCount, .ref aT, .ref aL, .int z_27.2.2])), (aL, .inr (1, [.ref aP, .int L_count, .int (fX2_refuse R_at 2 L_fault), .ref rL_values, .int L_top]))] H locs := hq
            exact J_36 (fX2_refuse R_at 2 L_fault) _ _ _ ⟨(if_neg c_34).symm, lv_sub hl [0, 1, 2, 3] rfl, (kk_sub hq [3, 4, 0, 1, 2] rfl (by decide))⟩
      · skip
        have hlt : at_.toInt < 60 := by refine nx_or (sa_or (p := at_) (n := T_length) (S := fS) n1) ?_; refine dig_ne (fun h0 => c_25 ?_); subst_vars; exact h0
        refine lv_bipush (v := 10) hx hb dX2_readNumber_32 (by decide) ?_
        refine lv_iload_n hx hb dX2_readNumber_34 rfl (lv_at hl 1 rfl) ?_
        refine lv_imul hx hb dX2_readNumber_35 ?_
        refine lv_aload_n hx hb dX2_readNumber_36 rfl (lv_at hl 3 rfl) ?_
        refine kk_get (ci := 2) (v := .ref aT) (C := RX2) (T := TX2) (N := 5) hx hb hts iX2 hown hK hq 0 rfl rfl 2 (by decide) lk1_ rfl dX2_readNumber_37 ?_
        refine lv_aload_n hx hb dX2_readNumber_40 rfl (lv_at hl 3 rfl) ?_
        refine kk_get (ci := 2) (v := .int at_) (C := RX2) (T := TX2) (N := 5) hx hb hts iX2 hown hK hq 0 rfl rfl 4 (by decide) lk0_ rfl dX2_readNumber_41 ?_
        refine kk_Vi (As := [.int at_]) (rest := [.int (10 * nu)]) (wr := [(aR, .inr (2, [.ref rR_waiting, .int R_waitingCount, .ref aT, .ref aL, .int at_])), (aL, .inr (1, [.ref aP, .int L_count, .int L_fault, .ref rL_values, .int L_top])), (aP, .inl (cP, 60, .inl fP))]) ⟨hx, hb, hml, hown, hts⟩ (c_X5_signAt l G aT aS cS at_ T_length fS (by assumption)) (kk_cwV 1 hts hsb wd_201 wd_202 wd_203 wd_52 wd_204 rfl rfl hd_X5_signAt ⟨Nat.le_of_ble_eq_true rfl, Nat.le_of_ble_eq_true rfl⟩) hA hK hq [3, 4] [0, 1, 2] [0] rfl rfl rfl (by decide) (by decide) (by decide) 0 5 rfl rfl rfl rfl hl.1 rfl (Nat.le_of_ble_eq_true rfl) dX2_readNumber_44 ⟨Nat.zero_le _, Nat.zero_le _⟩ (fun r_44 u_43 H locs h_45 hq => ?_)
        have er_44 := h_45
        have hq : kAt G A s [(aR, .inr (2, [.ref rR_waiting, .int R_waitingCount, .ref aT, .ref aL, .int at_])), (aL, .inr (1, [.ref aP, .int L_count, .int L_fault, .ref rL_values, .int L_top])), (aP, .inl (cP, 60, .inl fP)), (aT, .inr (5, [.ref aS, .int T_length])), (aS, .inl (cS, 60, .inl fS))] H locs := hq
        refine lv_iadd hx hb dX2_readNumber_47 ?_
        refine lv_bipush (v := 48) hx hb dX2_readNumber_48 (by decide) ?_
        refine lv_isub hx hb dX2_readNumber_50 ?_
        refine lv_topi (fun x2_46 ex2_46 => ?_)
        refine lv_istore_n (lv' := [(2, .int x2_46), (3, .int i), (1, .int R_at), (0, .ref aR)]) hx hb dX2_readNumber_51 rfl hl (by decide) rfl (fun ls hl => ?_)
        refine lv_aload_n hx hb dX2_readNumber_52 rfl (lv_at hl 3 rfl) ?_
        refine lv_dup hx hb dX2_readNumber_53 rfl ?_
        refine kk_get (ci := 2) (v := .int at_) (C := RX2) (T := TX2) (N := 5) hx hb hts iX2 hown hK hq 0 rfl rfl 4 (by decide) lk0_ rfl dX2_readNumber_54 ?_
        refine lv_iconst (v := 1) hx hb dX2_readNumber_57 (by decide) ?_
        refine lv_iadd hx hb dX2_readNumber_58 ?_
        refine lv_topi (fun at_47 eat_47 => ?_)
        refine kk_put (ws' := [(aR, .inr (2, [.ref rR_waiting, .int R_waitingCount, .ref aT, .ref aL, .int at_47])), (aL, .inr (1, [.ref aP, .int L_count, .int L_fault, .ref rL_values, .int L_top])), (aP, .inl (cP, 60, .inl fP)), (aT, .inr (5, [.ref aS, .int T_length])), (aS, .inl (cS, 60, .inl fS))]) (ci := 2) (v := .int at_47) (C := RX2) (T := TX2) (N := 5) hx hb hts iX2 tyX2_ok nmX2 hown hK hq 0 rfl rfl 4 (by decide) lk0_ rfl rfl rfl (Nat.le_of_ble_eq_true rfl) dX2_readNumber_59 rfl (fun H locs hq => ?_)
        have hat_47 := at_inc eat_47 (by assumption) hlt
        have q0at_47 : 0 ≤ at_47.toInt := hat_47.1
        have q1at_47 : at_47.toInt ≤ 60 := hat_47.2
        refine lv_iinc (v := i + 1) (lv' := [(3, .int (i + 1)), (2, .int x2_46), (1, .int R_at), (0, .ref aR)]) hx hb dX2_readNumber_62 hl (k := 1) rfl rfl (by decide) rfl (fun ls hl => ?_)
        refine lv_goto (tgt := 9) hx hb dX2_readNumber_65 (by decide) ?_
        exact ih (i + 1) x2_46 at_47 _ _ _ ⟨(hrel.trans ((if_neg c_1).trans ((congrArg (fun (r_20 : Int32) => ((let r_6 : Int32 := fX2_isDigit r_20
    if r_6 = 0 then (
    (i, nu, at_))
    else (
    let r_10 : Int32 := fX5_signAt at_ T_length fS
    let x2_12 : Int32 := ((10 * nu) + r_10) - 48
    let at_13 : Int32 := at_ + 1
    lpX2_readNumber_9 T_length fS N (i + 1) x2_12 at_13)) : Int32 × Int32 × Int32)) er_20.symm).trans ((congrArg (fun (r_23 : Int32) => ((if r_23 = 0 then (
    (i, nu, at_))
    else (
    let r_10 : Int32 := fX5_signAt at_ T_length fS
    let x2_12 : Int32 := ((10 * nu) + r_10) - 48
    let at_13 : Int32 := at_ + 1
    lpX2_readNumber_9 T_length fS N (i + 1) x2_12 at_13)) : Int32 × Int32 × Int32)) er_23.symm).trans ((if_neg c_25).trans ((congrArg (fun (r_44 : Int32) => ((let x2_12 : Int32 := ((10 * nu) + r_44) - 48
    let at_13 : Int32 := at_ + 1
    lpX2_readNumber_9 T_length fS N (i + 1) x2_12 at_13) : Int32 × Int32 × Int32)) er_44.symm).trans ((congrArg (fun (x2_46 : Int32) => ((let at_13 : Int32 := at_ + 1
    lpX2_readNumber_9 T_length fS N (i + 1) x2_46 at_13) : Int32 × Int32 × Int32)) ex2_46.symm).trans ((congrArg (fun (at_47 : Int32) => ((lpX2_readNumber_9 T_length fS N (i + 1) x2_46 at_47) : Int32 × Int32 × Int32)) eat_47.symm))))))))), (by have := kk_inc (x := i) (by omega); omega), (by have := kk_inc (x := i) (by omega); omega), (by have := kk_inc (x := i) (by omega); omega), (by assumption), (by assumption), lv_sub hl [0, 1, 2, 3] rfl, (kk_sub hq [0, 3, 4, 1, 2] rfl (by decide))⟩
theorem hd_X2_nextSign : yX2_nextSign.cls = RX2 ∧ yX2_nextSign.cls ≠ "java/lang/invoke/MethodHandle" ∧ yX2_nextSign.cls ≠ "java/lang/invoke/VarHandle" ∧ (parseMethodDescriptor yX2_nextSign.desc).map (fun d => d.parameters.length) = some 0 := by decide +kernel
def lpX2_readSignsBefore_5 (T_length : Int32) (fS : Nat → Int32) (L_fault : Int32) : Nat → Int32 → Int32 → Int32 → (Nat → Int32) → Int32 × Int32 × Int32 × (Nat → Int32)
  | 0, _, _, _, _ => (0, 0, 0, fun _ => 0)
  | N + 1, sg, wc, at_, wf =>
    if 60 ≤ wc then (
    (sg, wc, at_, wf))
    else (
    if sg = 33 then (
    let z0_7 : Int32 := if sg = 45 then 126 else sg
    let fW_9 : Nat → Int32 := upd wf wc.toNatClampNeg z0_7
    let waitingCount_10 : Int32 := wc + 1
    let at_11 : Int32 := at_ + 1
    let r_13 : Int32 := (fX2_nextSign at_11 T_length fS L_fault).1
    let u_12 : Int32 := (fX2_nextSign at_11 T_length fS L_fault).2
    lpX2_readSignsBefore_5 T_length fS L_fault N r_13 waitingCount_10 u_12 fW_9)
    else (
    if sg = 45 then (
    let z0_17 : Int32 := if sg = 45 then 126 else sg
    let fW_19 : Nat → Int32 := upd wf wc.toNatClampNeg z0_17
    let waitingCount_20 : Int32 := wc + 1
    let at_21 : Int32 := at_ + 1
    let r_23 : Int32 := (fX2_nextSign at_21 T_length fS L_fault).1
    let u_22 : Int32 := (fX2_nextSign at_21 T_length fS L_fault).2
    lpX2_readSignsBefore_5 T_length fS L_fault N r_23 waitingCount_20 u_22 fW_19)
    else (
    (sg, wc, at_, wf))))

def fX2_readSignsBefore (R_waitingCount : Int32) (R_at : Int32) (fW : Nat → Int32) (T_length : Int32) (fS : Nat → Int32) (L_fault : Int32) : Int32 × Int32 × (Nat → Int32) :=
  let r_2 : Int32 := (fX2_nextSign R_at T_length fS L_fault).1
  let u_1 : Int32 := (fX2_nextSign R_at T_length fS L_fault).2
  let z_19 : Int32 × Int32 × Int32 × (Nat → Int32) := lpX2_readSignsBefore_5 T_length fS L_fault (61) r_2 R_waitingCount u_1 fW
  (z_19.2.1, z_19.2.2.1, z_19.2.2.2)

set_option maxHeartbeats 4000000 in
set_option maxRecDepth 100000 in
theorem c_X2_readSignsBefore (l : Launch) (G : va_G) (aR aW aT aS aL rL_parts rL_values : Nat) (cW cS : ClassId) (R_waitingCount : Int32) (R_at : Int32) (fW : Nat → Int32) (T_length : Int32) (fS : Nat → Int32) (L_count : Int32) (L_fault : Int32) (L_top : Int32) (q0 : 0 ≤ R_at.toInt) (q1 : R_at.toInt ≤ 60) (n1 : T_length.toInt ≤ 60) (w0 : 0 ≤ R_waitingCount.toInt) (w1 : R_waitingCount.toInt ≤ 60) : kCv l yX2_readSignsBefore (Cond.code yX2_readSignsBefore cX2_readSignsBefore 2 none :: wsL_law) ({ frames := 2, cells := 0, slots := 0, locals := 41 }) G [(cW, .int), (cS, .int)] [.ref aR] [(aR, .inr (2, [.ref aW, .int R_waitingCount, .ref aT, .ref aL, .int R_at])), (aW, .inl (cW, 60, .inl fW)), (aT, .inr (5, [.ref aS, .int T_length])), (aS, .inl (cS, 60, .inl fS)), (aL, .inr (1, [.ref rL_parts, .int L_count, .int L_fault, .ref rL_values, .int L_top]))] (fun (u : Int32 × Int32 × (Nat → Int32)) => u = fX2_readSignsBefore R_waitingCount R_at fW T_length fS L_fault ∧ (0 ≤ u.2.1.toInt) ∧ (u.2.1.toInt ≤ 60) ∧ (0 ≤ u.1.toInt) ∧ (u.1.toInt ≤ 60)) (fun (u : Int32 × Int32 × (Nat → Int32)) => [(aR, .inr (2, [.ref aW, .int u.1, .ref aT, .ref aL, .int u.2.1])), (aW, .inl (cW, 60, .inl u.2.2)), (aT, .inr (5, [.ref aS, .int T_length])), (aS, .inl (cS, 60, .inl fS)), (aL, .inr (1, [.ref rL_parts, .int L_count, .int L_fault, .ref rL_values, .int L_top]))]) := by
  intro sz
  refine Met.ofW (cc := cX2_readSignsBefore) (maxL := 2) (ret := none) (by decide) rfl ?_
  intro p e s m args below meth c s₁ B hml hv
  obtain ⟨rfl, hv⟩ := hv
  obtain ⟨rfl, hK, hq, hA⟩ := kk_begin hv
  have hx := B.exec
  have hb := B.bytes
  have hr := B.returns
  have hts := atoms_spec (ws := (Cond.code yX2_readSignsBefore cX2_readSignsBefore 2 none :: wsL_law)) B.pre
  have hown : s.vm.findClass RX2 = some m.cls := findClass_of_methodNamed B.named
  have hlocks := B.notSynchronized
  have hsb : ∀ w ∈ wsL_law, w ∈ (Cond.code yX2_readSignsBefore cX2_readSignsBefore 2 none :: wsL_law) := fun _ h => List.mem_cons_of_mem _ h
  generalize va_A [(aR, .inr (2, [.ref aW, .int R_waitingCount, .ref aT, .ref aL, .int R_at])), (aW, .inl (cW, 60, .inl fW)), (aT, .inr (5, [.ref aS, .int T_length])), (aS, .inl (cS, 60, .inl fS)), (aL, .inr (1, [.ref rL_parts, .int L_count, .int L_fault, .ref rL_values, .int L_top]))] s.heap.size = A at hq hA ⊢
  have iX2 : ∀ w ∈ u_ws RX2 TX2 5, w ∈ (Cond.code yX2_readSignsBefore cX2_readSignsBefore 2 none :: wsL_law) := fun w h => hsb w (bin_X2 w h)
  have lk0_ := hts _ (hsb _ wd_109)
  have lk1_ := hts _ (hsb _ wd_108)
  have lk2_ := hts _ (hsb _ wd_110)
  have hl := lv_entry ([.ref aR]) (n := 2) (Nat.le_of_ble_eq_true rfl)
  rw [lg_entry_eq]
  generalize (lg_sl ([.ref aR]) ++ List.replicate (2 - (lg_sl ([.ref aR])).length) Slot.unset).toArray = ls at hl ⊢
  have hl : lv_has ls 2 [(0, .ref aR)] := hl
  refine lv_aload_n hx hb dX2_readSignsBefore_0 rfl (lv_at hl 0 rfl) ?_
  refine kk_Vi (As := []) (rest := []) (wr := [(aW, .inl (cW, 60, .inl fW))]) ⟨hx, hb, hml, hown, hts⟩ (c_X2_nextSign l G aR aT aS aL aW rL_parts rL_values cS R_waitingCount R_at T_length fS L_count L_fault L_top (by assumption) (by assumption) (by assumption)) (kk_cwV 0 hts hsb wd_195 wd_196 wd_197 wd_25 wd_198 rfl rfl hd_X2_nextSign ⟨Nat.le_of_ble_eq_true rfl, Nat.le_of_ble_eq_true rfl⟩) hA hK hq [0, 2, 3, 4] [1] [1] rfl rfl rfl (by decide) (by decide) (by decide) 0 2 rfl rfl rfl rfl hl.1 rfl (Nat.le_of_ble_eq_true rfl) dX2_readSignsBefore_1 ⟨Nat.zero_le _, Nat.zero_le _⟩ (fun r_2 u_1 H locs h_3 hq => ?_)
  obtain ⟨er_2, eu_1, q0_u_1, q1_u_1, nx_u_1⟩ := h_3
  have hq : kAt G A s [(aW, .inl (cW, 60, .inl fW)), (aR, .inr (2, [.ref aW, .int R_waitingCount, .ref aT, .ref aL, .int u_1])), (aT, .inr (5, [.ref aS, .int T_length])), (aS, .inl (cS, 60, .inl fS)), (aL, .inr (1, [.ref rL_parts, .int L_count, .int L_fault, .ref rL_values, .int L_top]))] H locs := hq
  refine lv_istore_n (lv' := [(1, .int r_2), (0, .ref aR)]) hx hb dX2_readSignsBefore_4 rfl hl (by decide) rfl (fun ls hl => ?_)
  refine kk_loop4 (fun N (sg : Int32) (wc : Int32) (at_ : Int32) (wf : Nat → Int32) (H : Heap) (locs : List Loc) (ls : Array Slot) => lpX2_readSignsBefore_5 T_length fS L_fault (61) r_2 R_waitingCount u_1 fW = lpX2_readSignsBefore_5 T_length fS L_fault N sg wc at_ wf ∧ (0 ≤ at_.toInt) ∧ (at_.toInt ≤ 60) ∧ (sg = -1 ∨ at_.toInt < 60) ∧ (0 ≤ wc.toInt) ∧ (wc.toInt ≤ 60) ∧ (60 < wc.toInt + N) ∧ lv_has ls 2 [(1, .int sg), (0, .ref aR)] ∧ kAt G A s [(aW, .inl (cW, 60, .inl wf)), (aR, .inr (2, [.ref aW, .int wc, .ref aT, .ref aL, .int at_])), (aT, .inr (5, [.ref aS, .int T_length])), (aS, .inl (cS, 60, .inl fS)), (aL, .inr (1, [.ref rL_parts, .int L_count, .int L_fault, .ref rL_values, .int L_top]))] H locs) 5 (fun sg wc at_ wf => []) (fun sg wc at_ wf H locs ls hv => ?_) (fun N sg wc at_ wf H locs ls ih hv => ?_) (61) r_2 R_waitingCount u_1 fW _ _ _ ⟨rfl, (by assumption), (by assumption), (by assumption), w0, w1, (by omega), lv_sub hl [0, 1] rfl, hq⟩
  · skip
    obtain ⟨hrel, ap0, ap1, nx, v0, v1, hN, hl, hq⟩ := hv
    omega
  · skip
    obtain ⟨hrel, ap0, ap1, nx, v0, v1, hN, hl, hq⟩ := hv
    refine lv_aload_n hx hb dX2_readSignsBefore_5 rfl (lv_at hl 1 rfl) ?_
    refine kk_get (ci := 2) (v := .int wc) (C := RX2) (T := TX2) (N := 5) hx hb hts iX2 hown hK hq 1 rfl rfl 1 (by decide) lk0_ rfl dX2_readSignsBefore_6 ?_
    refine lv_bipush (v := 60) hx hb dX2_readSignsBefore_9 (by decide) ?_
    refine lv_icmp_ge (tgt := 75) hx hb dX2_readSignsBefore_11 (by decide) (fun c_4 => ?_) (fun c_4 => ?_)
    · skip
      have hx_5 : ((sg, wc, at_, wf) : Int32 × Int32 × Int32 × (Nat → Int32)) = lpX2_readSignsBefore_5 T_length fS L_fault (61) r_2 R_waitingCount u_1 fW := (hrel.trans ((if_pos c_4))).symm
      obtain ⟨z_6, gz_6⟩ : ∃ z : Int32 × Int32 × Int32 × (Nat → Int32), z = (sg, wc, at_, wf) := ⟨_, rfl⟩
      have ez_6 : z_6 = lpX2_readSignsBefore_5 T_length fS L_fault (61) r_2 R_waitingCount u_1 fW := gz_6.trans hx_5
      have hl : lv_has ls 2 [(1, .int z_6.1), (0, .ref aR)] := by subst gz_6; exact hl
      have hq : kAt G A s [(aW, .inl (cW, 60, .inl z_6.2.2.2)), (aR, .inr (2, [.ref aW, .int z_6.2.1, .ref aT, .ref aL, .int z_6.2.2.1])), (aT, .inr (5, [.ref aS, .int T_length])), (aS, .inl (cS, 60, .inl fS)), (aL, .inr (1, [.ref rL_parts, .int L_count, .int L_fault, .ref rL_values, .int L_top]))] H locs := by subst gz_6; exact hq
      have q0f : 0 ≤ z_6.2.2.1.toInt := by subst gz_6; exact ap0
      have q1f : z_6.2.2.1.toInt ≤ 60 := by subst gz_6; exact ap1
      have w0f : 0 ≤ z_6.2.1.toInt := by subst gz_6; exact v0
      have w1f : z_6.2.1.toInt ≤ 60 := by subst gz_6; exact v1
      have hf : ((z_6.2.1, z_6.2.2.1, z_6.2.2.2) : Int32 × Int32 × (Nat → Int32)) = fX2_readSignsBefore R_waitingCount R_at fW T_length fS L_fault := by
        exact ((congrArg (fun (r_2 : Int32) => ((let u_1 : Int32 := (fX2_nextSign R_at T_length fS L_fault).2
  let z_19 : Int32 × Int32 × Int32 × (Nat → Int32) := lpX2_readSignsBefore_5 T_length fS L_fault (61) r_2 R_waitingCount u_1 fW
  (z_19.2.1, z_19.2.2.1, z_19.2.2.2)) : Int32 × Int32 × (Nat → Int32))) er_2.symm).trans ((congrArg (fun (u_1 : Int32) => ((let z_19 : Int32 × Int32 × Int32 × (Nat → Int32) := lpX2_readSignsBefore_5 T_length fS L_fault (61) r_2 R_waitingCount u_1 fW
  (z_19.2.1, z_19.2.2.1, z_19.2.2.2)) : Int32 × Int32 × (Nat → Int32))) eu_1.symm).trans ((congrArg (fun (z_6 : Int32 × Int32 × Int32 × (Nat → Int32)) => (((z_6.2.1, z_6.2.2.1, z_6.2.2.2)) : Int32 × Int32 × (Nat → Int32))) ez_6.symm)))).symm
      have en_0 : 0 ≤ z_6.2.2.1.toInt := by first | assumption | omega
      have en_1 : z_6.2.2.1.toInt ≤ 60 := by first | assumption | omega
      have en_2 : 0 ≤ z_6.2.1.toInt := by first | assumption | omega
      have en_3 : z_6.2.1.toInt ≤ 60 := by first | assumption | omega
      exact kk_ev hx hb hr hlocks hK hq [1, 0, 2, 3, 4] (z_6.2.1, z_6.2.2.1, z_6.2.2.2) rfl (by decide) dX2_readSignsBefore_75 ⟨hf, en_0, en_1, en_2, en_3⟩
    · skip
      have hw60 := kk_nle (k := 60) rfl c_4
      refine lv_iload_n hx hb dX2_readSignsBefore_14 rfl (lv_at hl 0 rfl) ?_
      refine lv_bipush (v := 33) hx hb dX2_readSignsBefore_15 (by decide) ?_
      refine lv_icmp_eq (tgt := 26) hx hb dX2_readSignsBefore_17 (by decide) (fun c_7 => ?_) (fun c_7 => ?_)
      · skip
        have hlt := nx_use nx c_7 (by decide)
        refine lv_aload_n hx hb dX2_readSignsBefore_26 rfl (lv_at hl 1 rfl) ?_
        refine kk_get (ci := 2) (v := .ref aW) (C := RX2) (T := TX2) (N := 5) hx hb hts iX2 hown hK hq 1 rfl rfl 0 (by decide) lk1_ rfl dX2_readSignsBefore_27 ?_
        refine lv_aload_n hx hb dX2_readSignsBefore_30 rfl (lv_at hl 1 rfl) ?_
        refine kk_get (ci := 2) (v := .int wc) (C := RX2) (T := TX2) (N := 5) hx hb hts iX2 hown hK hq 1 rfl rfl 1 (by decide) lk0_ rfl dX2_readSignsBefore_31 ?_
        refine lv_iload_n hx hb dX2_readSignsBefore_34 rfl (lv_at hl 0 rfl) ?_
        refine lv_bipush (v := 45) hx hb dX2_readSignsBefore_35 (by decide) ?_
        refine kk_join1 (fun (z0_9 : Int32) (H : Heap) (locs : List Loc) (ls : Array Slot) => z0_9 = (if sg = 45 then 126 else sg) ∧ lv_has ls 2 [(1, .int sg), (0, .ref aR)] ∧ kAt G A s [(aW, .inl (cW, 60, .inl wf)), (aR, .inr (2, [.ref aW, .int wc, .ref aT, .ref aL, .int at_])), (aT, .inr (5, [.ref aS, .int T_length])), (aS, .inl (cS, 60, .inl fS)), (aL, .inr (1, [.ref rL_parts, .int L_count, .int L_fault, .ref rL_values, .int L_top]))] H locs) 46 (fun z0_9 => [.int z0_9, .int wc, .ref aW]) (fun z0_9 H locs ls hv => ?_) (fun J_10 => ?_)
        · skip
          obtain ⟨ez0_9, hl, hq⟩ := hv
          refine kk_iast (ws' := [(aW, .inl (cW, 60, .inl (upd wf wc.toNatClampNeg z0_9))), (aR, .inr (2, [.ref aW, .int wc, .ref aT, .ref aL, .int at_])), (aT, .inr (5, [.ref aS, .int T_length])), (aS, .inl (cS, 60, .inl fS)), (aL, .inr (1, [.ref rL_parts, .int L_count, .int L_fault, .ref rL_values, .int L_top]))]) hx hb hK hq 0 0 rfl rfl wc.toNatClampNeg (kk_cl v0) (kk_clt v0 hw60) (by decide) dX2_readSignsBefore_46 rfl (fun H locs hq => ?_)
          obtain ⟨fW_11, efW_11⟩ : ∃ z : Nat → Int32, z = upd wf wc.toNatClampNeg z0_9 := ⟨_, rfl⟩
          rw [← efW_11] at hq
          refine lv_aload_n hx hb dX2_readSignsBefore_47 rfl (lv_at hl 1 rfl) ?_
          refine lv_dup hx hb dX2_readSignsBefore_48 rfl ?_
          refine kk_get (ci := 2) (v := .int wc) (C := RX2) (T := TX2) (N := 5) hx hb hts iX2 hown hK hq 1 rfl rfl 1 (by decide) lk0_ rfl dX2_readSignsBefore_49 ?_
          refine lv_iconst (v := 1) hx hb dX2_readSignsBefore_52 (by decide) ?_
          refine lv_iadd hx hb dX2_readSignsBefore_53 ?_
          refine lv_topi (fun waitingCount_12 ewaitingCount_12 => ?_)
          refine kk_put (ws' := [(aW, .inl (cW, 60, .inl fW_11)), (aR, .inr (2, [.ref aW, .int waitingCount_12, .ref aT, .ref aL, .int at_])), (aT, .inr (5, [.ref aS, .int T_length])), (aS, .inl (cS, 60, .inl fS)), (aL, .inr (1, [.ref rL_parts, .int L_count, .int L_fault, .ref rL_values, .int L_top]))]) (ci := 2) (v := .int waitingCount_12) (C := RX2) (T := TX2) (N := 5) hx hb hts iX2 tyX2_ok nmX2 hown hK hq 1 rfl rfl 1 (by decide) lk0_ rfl rfl rfl (Nat.le_of_ble_eq_true rfl) dX2_readSignsBefore_54 rfl (fun H locs hq => ?_)
          have hwaitingCount_12 := at_inc ewaitingCount_12 v0 hw60
          have w0waitingCount_12 : 0 ≤ waitingCount_12.toInt := hwaitingCount_12.1
          have w1waitingCount_12 : waitingCount_12.toInt ≤ 60 := hwaitingCount_12.2
          refine lv_aload_n hx hb dX2_readSignsBefore_57 rfl (lv_at hl 1 rfl) ?_
          refine lv_dup hx hb dX2_readSignsBefore_58 rfl ?_
          refine kk_get (ci := 2) (v := .int at_) (C := RX2) (T := TX2) (N := 5) hx hb hts iX2 hown hK hq 1 rfl rfl 4 (by decide) lk2_ rfl dX2_readSignsBefore_59 ?_
          refine lv_iconst (v := 1) hx hb dX2_readSignsBefore_62 (by decide) ?_
          refine lv_iadd hx hb dX2_readSignsBefore_63 ?_
          refine lv_topi (fun at_13 eat_13 => ?_)
          refine kk_put (ws' := [(aW, .inl (cW, 60, .inl fW_11)), (aR, .inr (2, [.ref aW, .int waitingCount_12, .ref aT, .ref aL, .int at_13])), (aT, .inr (5, [.ref aS, .int T_length])), (aS, .inl (cS, 60, .inl fS)), (aL, .inr (1, [.ref rL_parts, .int L_count, .int L_fault, .ref rL_values, .int L_top]))]) (ci := 2) (v := .int at_13) (C := RX2) (T := TX2) (N := 5) hx hb hts iX2 tyX2_ok nmX2 hown hK hq 1 rfl rfl 4 (by decide) lk2_ rfl rfl rfl (Nat.le_of_ble_eq_true rfl) dX2_readSignsBefore_64 rfl (fun H locs hq => ?_)
          have hat_13 := at_inc eat_13 (by assumption) hlt
          have q0at_13 : 0 ≤ at_13.toInt := hat_13.1
          have q1at_13 : at_13.toInt ≤ 60 := hat_13.2
          refine lv_aload_n hx hb dX2_readSignsBefore_67 rfl (lv_at hl 1 rfl) ?_
          refine kk_Vi (As := []) (rest := []) (wr := [(aW, .inl (cW, 60, .inl fW_11))]) ⟨hx, hb, hml, hown, hts⟩ (c_X2_nextSign l G aR aT aS aL aW rL_parts rL_values cS waitingCount_12 at_13 T_length fS L_count L_fault L_top (by assumption) (by assumption) (by assumption)) (kk_cwV 0 hts hsb wd_195 wd_196 wd_197 wd_25 wd_198 rfl rfl hd_X2_nextSign ⟨Nat.le_of_ble_eq_true rfl, Nat.le_of_ble_eq_true rfl⟩) hA hK hq [1, 2, 3, 4] [0] [1] rfl rfl rfl (by decide) (by decide) (by decide) 0 2 rfl rfl rfl rfl hl.1 rfl (Nat.le_of_ble_eq_true rfl) dX2_readSignsBefore_68 ⟨Nat.zero_le _, Nat.zero_le _⟩ (fun r_15 u_14 H locs h_16 hq => ?_)
          obtain ⟨er_15, eu_14, q0_u_14, q1_u_14, nx_u_14⟩ := h_16
          have hq : kAt G A s [(aW, .inl (cW, 60, .inl fW_11)), (aR, .inr (2, [.ref aW, .int waitingCount_12, .ref aT, .ref aL, .int u_14])), (aT, .inr (5, [.ref aS, .int T_length])), (aS, .inl (cS, 60, .inl fS)), (aL, .inr (1, [.ref rL_parts, .int L_count, .int L_fault, .ref rL_values, .int L_top]))] H locs := hq
          refine lv_istore_n (lv' := [(1, .int r_15), (0, .ref aR)]) hx hb dX2_readSignsBefore_71 rfl hl (by decide) rfl (fun ls hl => ?_)
          refine lv_goto (tgt := 5) hx hb dX2_readSignsBefore_72 (by decide) ?_
          exact ih r_15 waitingCount_12 u_14 fW_11 _ _ _ ⟨(hrel.trans ((if_neg c_4).trans ((if_pos c_7).trans ((congrArg (fun (z0_9 : Int32) => ((let fW_9 : Nat → Int32 := upd wf wc.toNatClampNeg z0_9
    let waitingCount_10 : Int32 := wc + 1
    let at_11 : Int32 := at_ + 1
    let r_13 : Int32 := (fX2_nextSign at_11 T_length fS L_fault).1
    let u_12 : Int32 := (fX2_nextSign at_11 T_length fS L_fault).2
    lpX2_readSignsBefore_5 T_length fS L_fault N r_13 waitingCount_10 u_12 fW_9) : Int32 × Int32 × Int32 × (Nat → Int32))) ez0_9.symm).trans ((congrArg (fun (fW_11 : Nat → Int32) => ((let waitingCount_10 : Int32 := wc + 1
    let at_11 : Int32 := at_ + 1
    let r_13 : Int32 := (fX2_nextSign at_11 T_length fS L_fault).1
    let u_12 : Int32 := (fX2_nextSign at_11 T_length fS L_fault).2
    lpX2_readSignsBefore_5 T_length fS L_fault N r_13 waitingCount_10 u_12 fW_11) : Int32 × Int32 × Int32 × (Nat → Int32))) efW_11.symm).trans ((congrArg (fun (waitingCount_12 : Int32) => ((let at_11 : Int32 := at_ + 1
    let r_13 : Int32 := (fX2_nextSign at_11 T_length fS L_fault).1
    let u_12 : Int32 := (fX2_nextSign at_11 T_length fS L_fault).2
    lpX2_readSignsBefore_5 T_length fS L_fault N r_13 waitingCount_12 u_12 fW_11) : Int32 × Int32 × Int32 × (Nat → Int32))) ewaitingCount_12.symm).trans ((congrArg (fun (at_13 : Int32) => ((let r_13 : Int32 := (fX2_nextSign at_13 T_length fS L_fault).1
    let u_12 : Int32 := (fX2_nextSign at_13 T_length fS L_fault).2
    lpX2_readSignsBefore_5 T_length fS L_fault N r_13 waitingCount_12 u_12 fW_11) : Int32 × Int32 × Int32 × (Nat → Int32))) eat_13.symm).trans ((congrArg (fun (r_15 : Int32) => ((let u_12 : Int32 := (fX2_nextSign at_13 T_length fS L_fault).2
    lpX2_readSignsBefore_5 T_length fS L_fault N r_15 waitingCount_12 u_12 fW_11) : Int32 × Int32 × Int32 × (Nat → Int32))) er_15.symm).trans ((congrArg (fun (u_14 : Int32) => ((lpX2_readSignsBefore_5 T_length fS L_fault N r_15 waitingCount_12 u_14 fW_11) : Int32 × Int32 × Int32 × (Nat → Int32))) eu_14.symm)))))))))), (by assumption), (by assumption), (by assumption), (by assumption), (by assumption), (by rw [ewaitingCount_12]; have := kk_inc (x := wc) (by omega); omega), lv_sub hl [0, 1] rfl, hq⟩
        · skip
          refine lv_icmp_ne (tgt := 45) hx hb dX2_readSignsBefore_37 (by decide) (fun c_8 => ?_) (fun c_8 => ?_)
          · skip
            refine lv_iload_n hx hb dX2_readSignsBefore_45 rfl (lv_at hl 0 rfl) ?_
            exact J_10 sg _ _ _ ⟨(if_neg c_8).symm, lv_sub hl [0, 1] rfl, hq⟩
          · skip
            refine lv_bipush (v := 126) hx hb dX2_readSignsBefore_40 (by decide) ?_
            refine lv_goto (tgt := 46) hx hb dX2_readSignsBefore_42 (by decide) ?_
            exact J_10 126 _ _ _ ⟨(if_pos c_8).symm, lv_sub hl [0, 1] rfl, hq⟩
      · skip
        refine lv_iload_n hx hb dX2_readSignsBefore_20 rfl (lv_at hl 0 rfl) ?_
        refine lv_bipush (v := 45) hx hb dX2_readSignsBefore_21 (by decide) ?_
        refine lv_icmp_ne (tgt := 75) hx hb dX2_readSignsBefore_23 (by decide) (fun c_17 => ?_) (fun c_17 => ?_)
        · skip
          have hx_18 : ((sg, wc, at_, wf) : Int32 × Int32 × Int32 × (Nat → Int32)) = lpX2_readSignsBefore_5 T_length fS L_fault (61) r_2 R_waitingCount u_1 fW := (hrel.trans ((if_neg c_4).trans ((if_neg c_7).trans ((if_neg c_17))))).symm
          obtain ⟨z_19, gz_19⟩ : ∃ z : Int32 × Int32 × Int32 × (Nat → Int32), z = (sg, wc, at_, wf) := ⟨_, rfl⟩
          have ez_19 : z_19 = lpX2_readSignsBefore_5 T_length fS L_fault (61) r_2 R_waitingCount u_1 fW := gz_19.trans hx_18
          have hl : lv_has ls 2 [(1, .int z_19.1), (0, .ref aR)] := by subst gz_19; exact hl
          have hq : kAt G A s [(aW, .inl (cW, 60, .inl z_19.2.2.2)), (aR, .inr (2, [.ref aW, .int z_19.2.1, .ref aT, .ref aL, .int z_19.2.2.1])), (aT, .inr (5, [.ref aS, .int T_length])), (aS, .inl (cS, 60, .inl fS)), (aL, .inr (1, [.ref rL_parts, .int L_count, .int L_fault, .ref rL_values, .int L_top]))] H locs := by subst gz_19; exact hq
          have q0f : 0 ≤ z_19.2.2.1.toInt := by subst gz_19; exact ap0
          have q1f : z_19.2.2.1.toInt ≤ 60 := by subst gz_19; exact ap1
          have w0f : 0 ≤ z_19.2.1.toInt := by subst gz_19; exact v0
          have w1f : z_19.2.1.toInt ≤ 60 := by subst gz_19; exact v1
          have hf : ((z_19.2.1, z_19.2.2.1, z_19.2.2.2) : Int32 × Int32 × (Nat → Int32)) = fX2_readSignsBefore R_waitingCount R_at fW T_length fS L_fault := by
            exact ((congrArg (fun (r_2 : Int32) => ((let u_1 : Int32 := (fX2_nextSign R_at T_length fS L_fault).2
  let z_19 : Int32 × Int32 × Int32 × (Nat → Int32) := lpX2_readSignsBefore_5 T_length fS L_fault (61) r_2 R_waitingCount u_1 fW
  (z_19.2.1, z_19.2.2.1, z_19.2.2.2)) : Int32 × Int32 × (Nat → Int32))) er_2.symm).trans ((congrArg (fun (u_1 : Int32) => ((let z_19 : Int32 × Int32 × Int32 × (Nat → Int32) := lpX2_readSignsBefore_5 T_length fS L_fault (61) r_2 R_waitingCount u_1 fW
  (z_19.2.1, z_19.2.2.1, z_19.2.2.2)) : Int32 × Int32 × (Nat → Int32))) eu_1.symm).trans ((congrArg (fun (z_19 : Int32 × Int32 × Int32 × (Nat → Int32)) => (((z_19.2.1, z_19.2.2.1, z_19.2.2.2)) : Int32 × Int32 × (Nat → Int32))) ez_19.symm)))).symm
          have en_0 : 0 ≤ z_19.2.2.1.toInt := by first | assumption | omega
          have en_1 : z_19.2.2.1.toInt ≤ 60 := by first | assumption | omega
          have en_2 : 0 ≤ z_19.2.1.toInt := by first | assumption | omega
          have en_3 : z_19.2.1.toInt ≤ 60 := by first | assumption | omega
          exact kk_ev hx hb hr hlocks hK hq [1, 0, 2, 3, 4] (z_19.2.1, z_19.2.2.1, z_19.2.2.2) rfl (by decide) dX2_readSignsBefore_75 ⟨hf, en_0, en_1, en_2, en_3⟩
        · skip
          have hlt := nx_use nx c_17 (by decide)
          refine lv_aload_n hx hb dX2_readSignsBefore_26 rfl (lv_at hl 1 rfl) ?_
          refine kk_get (ci := 2) (v := .ref aW) (C := RX2) (T := TX2) (N := 5) hx hb hts iX2 hown hK hq 1 rfl rfl 0 (by decide) lk1_ rfl dX2_readSignsBefore_27 ?_
          refine lv_aload_n hx hb dX2_readSignsBefore_30 rfl (lv_at hl 1 rfl) ?_
          refine kk_get (ci := 2) (v := .int wc) (C := RX2) (T := TX2) (N := 5) hx hb hts iX2 hown hK hq 1 rfl rfl 1 (by decide) lk0_ rfl dX2_readSignsBefore_31 ?_
          refine lv_iload_n hx hb dX2_readSignsBefore_34 rfl (lv_at hl 0 rfl) ?_
          refine lv_bipush (v := 45) hx hb dX2_readSignsBefore_35 (by decide) ?_
          refine kk_join1 (fun (z0_21 : Int32) (H : Heap) (locs : List Loc) (ls : Array Slot) => z0_21 = (if sg = 45 then 126 else sg) ∧ lv_has ls 2 [(1, .int sg), (0, .ref aR)] ∧ kAt G A s [(aW, .inl (cW, 60, .inl wf)), (aR, .inr (2, [.ref aW, .int wc, .ref aT, .ref aL, .int at_])), (aT, .inr (5, [.ref aS, .int T_length])), (aS, .inl (cS, 60, .inl fS)), (aL, .inr (1, [.ref rL_parts, .int L_count, .int L_fault, .ref rL_values, .int L_top]))] H locs) 46 (fun z0_21 => [.int z0_21, .int wc, .ref aW]) (fun z0_21 H locs ls hv => ?_) (fun J_22 => ?_)
          · skip
            obtain ⟨ez0_21, hl, hq⟩ := hv
            refine kk_iast (ws' := [(aW, .inl (cW, 60, .inl (upd wf wc.toNatClampNeg z0_21))), (aR, .inr (2, [.ref aW, .int wc, .ref aT, .ref aL, .int at_])), (aT, .inr (5, [.ref aS, .int T_length])), (aS, .inl (cS, 60, .inl fS)), (aL, .inr (1, [.ref rL_parts, .int L_count, .int L_fault, .ref rL_values, .int L_top]))]) hx hb hK hq 0 0 rfl rfl wc.toNatClampNeg (kk_cl v0) (kk_clt v0 hw60) (by decide) dX2_readSignsBefore_46 rfl (fun H locs hq => ?_)
            obtain ⟨fW_23, efW_23⟩ : ∃ z : Nat → Int32, z = upd wf wc.toNatClampNeg z0_21 := ⟨_, rfl⟩
            rw [← efW_23] at hq
            refine lv_aload_n hx hb dX2_readSignsBefore_47 rfl (lv_at hl 1 rfl) ?_
            refine lv_dup hx hb dX2_readSignsBefore_48 rfl ?_
            refine kk_get (ci := 2) (v := .int wc) (C := RX2) (T := TX2) (N := 5) hx hb hts iX2 hown hK hq 1 rfl rfl 1 (by decide) lk0_ rfl dX2_readSignsBefore_49 ?_
            refine lv_iconst (v := 1) hx hb dX2_readSignsBefore_52 (by decide) ?_
            refine lv_iadd hx hb dX2_readSignsBefore_53 ?_
            refine lv_topi (fun waitingCount_24 ewaitingCount_24 => ?_)
            refine kk_put (ws' := [(aW, .inl (cW, 60, .inl fW_23)), (aR, .inr (2, [.ref aW, .int waitingCount_24, .ref aT, .ref aL, .int at_])), (aT, .inr (5, [.ref aS, .int T_length])), (aS, .inl (cS, 60, .inl fS)), (aL, .inr (1, [.ref rL_parts, .int L_count, .int L_fault, .ref rL_values, .int L_top]))]) (ci := 2) (v := .int waitingCount_24) (C := RX2) (T := TX2) (N := 5) hx hb hts iX2 tyX2_ok nmX2 hown hK hq 1 rfl rfl 1 (by decide) lk0_ rfl rfl rfl (Nat.le_of_ble_eq_true rfl) dX2_readSignsBefore_54 rfl (fun H locs hq => ?_)
            have hwaitingCount_24 := at_inc ewaitingCount_24 v0 hw60
            have w0waitingCount_24 : 0 ≤ waitingCount_24.toInt := hwaitingCount_24.1
            have w1waitingCount_24 : waitingCount_24.toInt ≤ 60 := hwaitingCount_24.2
            refine lv_aload_n hx hb dX2_readSignsBefore_57 rfl (lv_at hl 1 rfl) ?_
            refine lv_dup hx hb dX2_readSignsBefore_58 rfl ?_
            refine kk_get (ci := 2) (v := .int at_) (C := RX2) (T := TX2) (N := 5) hx hb hts iX2 hown hK hq 1 rfl rfl 4 (by decide) lk2_ rfl dX2_readSignsBefore_59 ?_
            refine lv_iconst (v := 1) hx hb dX2_readSignsBefore_62 (by decide) ?_
            refine lv_iadd hx hb dX2_readSignsBefore_63 ?_
            refine lv_topi (fun at_25 eat_25 => ?_)
            refine kk_put (ws' := [(aW, .inl (cW, 60, .inl fW_23)), (aR, .inr (2, [.ref aW, .int waitingCount_24, .ref aT, .ref aL, .int at_25])), (aT, .inr (5, [.ref aS, .int T_length])), (aS, .inl (cS, 60, .inl fS)), (aL, .inr (1, [.ref rL_parts, .int L_count, .int L_fault, .ref rL_values, .int L_top]))]) (ci := 2) (v := .int at_25) (C := RX2) (T := TX2) (N := 5) hx hb hts iX2 tyX2_ok nmX2 hown hK hq 1 rfl rfl 4 (by decide) lk2_ rfl rfl rfl (Nat.le_of_ble_eq_true rfl) dX2_readSignsBefore_64 rfl (fun H locs hq => ?_)
            have hat_25 := at_inc eat_25 (by assumption) hlt
            have q0at_25 : 0 ≤ at_25.toInt := hat_25.1
            have q1at_25 : at_25.toInt ≤ 60 := hat_25.2
            refine lv_aload_n hx hb dX2_readSignsBefore_67 rfl (lv_at hl 1 rfl) ?_
            refine kk_Vi (As := []) (rest := []) (wr := [(aW, .inl (cW, 60, .inl fW_23))]) ⟨hx, hb, hml, hown, hts⟩ (c_X2_nextSign l G aR aT aS aL aW rL_parts rL_values cS waitingCount_24 at_25 T_length fS L_count L_fault L_top (by assumption) (by assumption) (by assumption)) (kk_cwV 0 hts hsb wd_195 wd_196 wd_197 wd_25 wd_198 rfl rfl hd_X2_nextSign ⟨Nat.le_of_ble_eq_true rfl, Nat.le_of_ble_eq_true rfl⟩) hA hK hq [1, 2, 3, 4] [0] [1] rfl rfl rfl (by decide) (by decide) (by decide) 0 2 rfl rfl rfl rfl hl.1 rfl (Nat.le_of_ble_eq_true rfl) dX2_readSignsBefore_68 ⟨Nat.zero_le _, Nat.zero_le _⟩ (fun r_27 u_26 H locs h_28 hq => ?_)
            obtain ⟨er_27, eu_26, q0_u_26, q1_u_26, nx_u_26⟩ := h_28
            have hq : kAt G A s [(aW, .inl (cW, 60, .inl fW_23)), (aR, .inr (2, [.ref aW, .int waitingCount_24, .ref aT, .ref aL, .int u_26])), (aT, .inr (5, [.ref aS, .int T_length])), (aS, .inl (cS, 60, .inl fS)), (aL, .inr (1, [.ref rL_parts, .int L_count, .int L_fault, .ref rL_values, .int L_top]))] H locs := hq
            refine lv_istore_n (lv' := [(1, .int r_27), (0, .ref aR)]) hx hb dX2_readSignsBefore_71 rfl hl (by decide) rfl (fun ls hl => ?_)
            refine lv_goto (tgt := 5) hx hb dX2_readSignsBefore_72 (by decide) ?_
            exact ih r_27 waitingCount_24 u_26 fW_23 _ _ _ ⟨(hrel.trans ((if_neg c_4).trans ((if_neg c_7).trans ((if_pos c_17).trans ((congrArg (fun (z0_21 : Int32) => ((let fW_19 : Nat → Int32 := upd wf wc.toNatClampNeg z0_21
    let waitingCount_20 : Int32 := wc + 1
    let at_21 : Int32 := at_ + 1
    let r_23 : Int32 := (fX2_nextSign at_21 T_length fS L_fault).1
    let u_22 : Int32 := (fX2_nextSign at_21 T_length fS L_fault).2
    lpX2_readSignsBefore_5 T_length fS L_fault N r_23 waitingCount_20 u_22 fW_19) : Int32 × Int32 × Int32 × (Nat → Int32))) ez0_21.symm).trans ((congrArg (fun (fW_23 : Nat → Int32) => ((let waitingCount_20 : Int32 := wc + 1
    let at_21 : Int32 := at_ + 1
    let r_23 : Int32 := (fX2_nextSign at_21 T_length fS L_fault).1
    let u_22 : Int32 := (fX2_nextSign at_21 T_length fS L_fault).2
    lpX2_readSignsBefore_5 T_length fS L_fault N r_23 waitingCount_20 u_22 fW_23) : Int32 × Int32 × Int32 × (Nat → Int32))) efW_23.symm).trans ((congrArg (fun (waitingCount_24 : Int32) => ((let at_21 : Int32 := at_ + 1
    let r_23 : Int32 := (fX2_nextSign at_21 T_length fS L_fault).1
    let u_22 : Int32 := (fX2_nextSign at_21 T_length fS L_fault).2
    lpX2_readSignsBefore_5 T_length fS L_fault N r_23 waitingCount_24 u_22 fW_23) : Int32 × Int32 × Int32 × (Nat → Int32))) ewaitingCount_24.symm).trans ((congrArg (fun (at_25 : Int32) => ((let r_23 : Int32 := (fX2_nextSign at_25 T_length fS L_fault).1
    let u_22 : Int32 := (fX2_nextSign at_25 T_length fS L_fault).2
    lpX2_readSignsBefore_5 T_length fS L_fault N r_23 waitingCount_24 u_22 fW_23) : Int32 × Int32 × Int32 × (Nat → Int32))) eat_25.symm).trans ((congrArg (fun (r_27 : Int32) => ((let u_22 : Int32 := (fX2_nextSign at_25 T_length fS L_fault).2
    lpX2_readSignsBefore_5 T_length fS L_fault N r_27 waitingCount_24 u_22 fW_23) : Int32 × Int32 × Int32 × (Nat → Int32))) er_27.symm).trans ((congrArg (fun (u_26 : Int32) => ((lpX2_readSignsBefore_5 T_length fS L_fault N r_27 waitingCount_24 u_26 fW_23) : Int32 × Int32 × Int32 × (Nat → Int32))) eu_26.symm))))))))))), (by assumption), (by assumption), (by assumption), (by assumption), (by assumption), (by rw [ewaitingCount_24]; have := kk_inc (x := wc) (by omega); omega), lv_sub hl [0, 1] rfl, hq⟩
          · skip
            refine lv_icmp_ne (tgt := 45) hx hb dX2_readSignsBefore_37 (by decide) (fun c_20 => ?_) (fun c_20 => ?_)
            · skip
              refine lv_iload_n hx hb dX2_readSignsBefore_45 rfl (lv_at hl 0 rfl) ?_
              exact J_22 sg _ _ _ ⟨(if_neg c_20).symm, lv_sub hl [0, 1] rfl, hq⟩
            · skip
              refine lv_bipush (v := 126) hx hb dX2_readSignsBefore_40 (by decide) ?_
              refine lv_goto (tgt := 46) hx hb dX2_readSignsBefore_42 (by decide) ?_
              exact J_22 126 _ _ _ ⟨(if_pos c_20).symm, lv_sub hl [0, 1] rfl, hq⟩
