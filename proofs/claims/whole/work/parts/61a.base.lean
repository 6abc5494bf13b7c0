theorem ix_add {x : Int32} (c n : Nat) (h0 : 0 ≤ x.toInt) (h1 : c + x.toInt < n) (hn : n < 1000) : nI c + x = nI (c + x.toNatClampNeg) ∧ c + x.toNatClampNeg < n := by
  have h2 := kk_clN h0
  refine ⟨?_, by omega⟩
  have h3 := kk_cl h0
  conv => lhs; rw [h3]
  exact nI_add c _
def fX8_in (p1 : Int64) (p2 : Int64) (p3 : Int64) : Int32 :=
  let z0_2 : Int32 := if p1 < p2 then 0 else if p3 < p1 then 0 else 1
  z0_2

set_option maxHeartbeats 4000000 in
set_option maxRecDepth 100000 in
theorem c_X8_in (l : Launch) (G : va_G) (p1 : Int64) (p2 : Int64) (p3 : Int64) : kCi l yX8_in (Cond.code yX8_in cX8_in 6 (some .boolean) :: wsL_law) ({ frames := 0, cells := 0, slots := 0, locals := 0 }) G [] [.long p1, .long p2, .long p3] [] (fun (r : Int32) (_ : Unit) => r = fX8_in p1 p2 p3 ∧ (r = 0 ∨ r = 1)) (fun (_ : Unit) => []) := by
  intro sz
  refine Met.ofW (cc := cX8_in) (maxL := 6) (ret := (some .boolean)) (by decide) rfl ?_
  intro p e s m args below meth c s₁ B hml hv
  obtain ⟨rfl, hv⟩ := hv
  obtain ⟨rfl, hK, hq, hA⟩ := kk_begin hv
  have hx := B.exec
  have hb := B.bytes
  have hr := B.returns
  have hts := atoms_spec (ws := (Cond.code yX8_in cX8_in 6 (some .boolean) :: wsL_law)) B.pre
  have hown : s.vm.findClass RX8 = some m.cls := findClass_of_methodNamed B.named
  have hlocks := B.notSynchronized
  have hsb : ∀ w ∈ wsL_law, w ∈ (Cond.code yX8_in cX8_in 6 (some .boolean) :: wsL_law) := fun _ h => List.mem_cons_of_mem _ h
  generalize va_A [] s.heap.size = A at hq hA ⊢
  have hl := lv_entry ([.long p1, .long p2, .long p3]) (n := 6) (Nat.le_of_ble_eq_true rfl)
  rw [lg_entry_eq]
  generalize (lg_sl ([.long p1, .long p2, .long p3]) ++ List.replicate (6 - (lg_sl ([.long p1, .long p2, .long p3])).length) Slot.unset).toArray = ls at hl ⊢
  have hl : lv_has ls 6 [(0, .long p1), (2, .long p2), (4, .long p3)] := hl
  refine lv_lload_n hx hb dX8_in_0 rfl (lv_at hl 0 rfl) ?_
  refine lv_lload_n hx hb dX8_in_1 rfl (lv_at hl 1 rfl) ?_
  refine kk_join1 (fun (z0_2 : Int32) (H : Heap) (locs : List Loc) (ls : Array Slot) => z0_2 = (if p1 < p2 then 0 else if p3 < p1 then 0 else 1) ∧ lv_has ls 6 [(0, .long p1), (2, .long p2), (4, .long p3)] ∧ kAt G A s [] H locs) 18 (fun z0_2 => [.int z0_2]) (fun z0_2 H locs ls hv => ?_) (fun J_3 => ?_)
  · skip
    obtain ⟨ez0_2, hl, hq⟩ := hv
    have hf : (z0_2 : Int32) = fX8_in p1 p2 p3 := by
      exact ((congrArg (fun (z0_2 : Int32) => ((z0_2) : Int32)) ez0_2.symm)).symm
    have hz : (z0_2 : Int32) = 0 ∨ (z0_2 : Int32) = 1 := (by rw [ez0_2]; repeat (first | exact Or.inl rfl | exact Or.inr rfl | split))
    exact kk_ez hx hb hr hlocks hz hK hq [] () rfl (by decide) dX8_in_18 ⟨hf, hz⟩
  · skip
    refine kk_lc_lt (tgt := 17) hx hb dX8_in_2 dX8_in_3 (by decide) (fun c_1 => ?_) (fun c_1 => ?_)
    · skip
      refine lv_iconst (v := 0) hx hb dX8_in_17 (by decide) ?_
      exact J_3 0 _ _ _ ⟨(if_pos c_1).symm, lv_sub hl [0, 1, 2] rfl, hq⟩
    · skip
      refine lv_lload_n hx hb dX8_in_6 rfl (lv_at hl 0 rfl) ?_
      refine lv_lload hx hb dX8_in_7 (lv_at hl 2 rfl) ?_
      refine kk_lc_gt (tgt := 17) hx hb dX8_in_9 dX8_in_10 (by decide) (fun c_4 => ?_) (fun c_4 => ?_)
      · skip
        refine lv_iconst (v := 0) hx hb dX8_in_17 (by decide) ?_
        exact J_3 0 _ _ _ ⟨((if_neg c_1).trans (if_pos c_4)).symm, lv_sub hl [0, 1, 2] rfl, hq⟩
      · skip
        refine lv_iconst (v := 1) hx hb dX8_in_13 (by decide) ?_
        refine lv_goto (tgt := 18) hx hb dX8_in_14 (by decide) ?_
        exact J_3 1 _ _ _ ⟨((if_neg c_1).trans (if_neg c_4)).symm, lv_sub hl [0, 1, 2] rfl, hq⟩
def fX8_bad (p1 : Int32) (fRf : Nat → Int32) : Int32 × (Nat → Int32) :=
  let w_1 : Int32 := (fRf 0) + 1
  let fRf_2 : Nat → Int32 := upd fRf 0 w_1
  (p1, fRf_2)

set_option maxHeartbeats 4000000 in
set_option maxRecDepth 100000 in
theorem c_X8_bad (l : Launch) (G : va_G) (aM aRf rM_now rM_kept rM_isKept rM_values rM_signs rM_was : Nat) (cRf : ClassId) (p1 : Int32) (M_at : Int32) (M_fault : Int32) (M_valueMany : Int32) (M_signMany : Int32) (M_tells : Int64) (M_way : Int32) (M_wish : Int32) (M_moreTick : Int64) (M_moreForce : Int64) (M_runTurns : Int32) (M_runFirst : Int64) (M_runLast : Int64) (M_peak : Int64) (M_beside : Int64) (M_besideAt : Int32) (fRf : Nat → Int32) : kCi l yX8_bad (Cond.code yX8_bad cX8_bad 2 (some .int) :: wsL_law) ({ frames := 0, cells := 0, slots := 0, locals := 0 }) G [(cRf, .int)] [.ref aM, .int p1] [(aM, .inr (8, [.ref rM_now, .ref rM_kept, .ref rM_isKept, .ref aRf, .int M_at, .int M_fault, .ref rM_values, .int M_valueMany, .ref rM_signs, .int M_signMany, .long M_tells, .int M_way, .int M_wish, .long M_moreTick, .long M_moreForce, .int M_runTurns, .long M_runFirst, .long M_runLast, .ref rM_was, .long M_peak, .long M_beside, .int M_besideAt])), (aRf, .inl (cRf, 3, .inl fRf))] (fun (r : Int32) (u : Nat → Int32) => r = (fX8_bad p1 fRf).1 ∧ u = (fX8_bad p1 fRf).2) (fun (u : Nat → Int32) => [(aM, .inr (8, [.ref rM_now, .ref rM_kept, .ref rM_isKept, .ref aRf, .int M_at, .int M_fault, .ref rM_values, .int M_valueMany, .ref rM_signs, .int M_signMany, .long M_tells, .int M_way, .int M_wish, .long M_moreTick, .long M_moreForce, .int M_runTurns, .long M_runFirst, .long M_runLast, .ref rM_was, .long M_peak, .long M_beside, .int M_besideAt])), (aRf, .inl (cRf, 3, .inl u))]) := by
  intro sz
  refine Met.ofW (cc := cX8_bad) (maxL := 2) (ret := (some .int)) (by decide) rfl ?_
  intro p e s m args below meth c s₁ B hml hv
  obtain ⟨rfl, hv⟩ := hv
  obtain ⟨rfl, hK, hq, hA⟩ := kk_begin hv
  have hx := B.exec
  have hb := B.bytes
  have hr := B.returns
  have hts := atoms_spec (ws := (Cond.code yX8_bad cX8_bad 2 (some .int) :: wsL_law)) B.pre
  have hown : s.vm.findClass RX8 = some m.cls := findClass_of_methodNamed B.named
  have hlocks := B.notSynchronized
  have hsb : ∀ w ∈ wsL_law, w ∈ (Cond.code yX8_bad cX8_bad 2 (some .int) :: wsL_law) := fun _ h => List.mem_cons_of_mem _ h
  generalize va_A [(aM, .inr (8, [.ref rM_now, .ref rM_kept, .ref rM_isKept, .ref aRf, .int M_at, .int M_fault, .ref rM_values, .int M_valueMany, .ref rM_signs, .int M_signMany, .long M_tells, .int M_way, .int M_wish, .long M_moreTick, .long M_moreForce, .int M_runTurns, .long M_runFirst, .long M_runLast, .ref rM_was, .long M_peak, .long M_beside, .int M_besideAt])), (aRf, .inl (cRf, 3, .inl fRf))] s.heap.size = A at hq hA ⊢
  have iX8 : ∀ w ∈ u_ws RX8 TX8 22, w ∈ (Cond.code yX8_bad cX8_bad 2 (some .int) :: wsL_law) := fun w h => hsb w (bin_X8 w h)
  have lk0_ := hts _ (hsb _ wd_120)
  have hl := lv_entry ([.ref aM, .int p1]) (n := 2) (Nat.le_of_ble_eq_true rfl)
  rw [lg_entry_eq]
  generalize (lg_sl ([.ref aM, .int p1]) ++ List.replicate (2 - (lg_sl ([.ref aM, .int p1])).length) Slot.unset).toArray = ls at hl ⊢
  have hl : lv_has ls 2 [(0, .ref aM), (1, .int p1)] := hl
  refine lv_aload_n hx hb dX8_bad_0 rfl (lv_at hl 0 rfl) ?_
  refine kk_get (ci := 8) (v := .ref aRf) (C := RX8) (T := TX8) (N := 22) hx hb hts iX8 hown hK hq 0 rfl rfl 3 (by decide) lk0_ rfl dX8_bad_1 ?_
  refine lv_iconst (v := 0) hx hb dX8_bad_4 (by decide) ?_
  refine lv_dup2_11 hx hb dX8_bad_5 rfl rfl ?_
  refine kk_iald hx hb hK hq 1 0 rfl rfl 0 rfl (by decide) (by decide) dX8_bad_6 ?_
  refine lv_iconst (v := 1) hx hb dX8_bad_7 (by decide) ?_
  refine lv_iadd hx hb dX8_bad_8 ?_
  refine lv_topi (fun w_1 ew_1 => ?_)
  refine kk_iast (ws' := [(aM, .inr (8, [.ref rM_now, .ref rM_kept, .ref rM_isKept, .ref aRf, .int M_at, .int M_fault, .ref rM_values, .int M_valueMany, .ref rM_signs, .int M_signMany, .long M_tells, .int M_way, .int M_wish, .long M_moreTick, .long M_moreForce, .int M_runTurns, .long M_runFirst, .long M_runLast, .ref rM_was, .long M_peak, .long M_beside, .int M_besideAt])), (aRf, .inl (cRf, 3, .inl (upd fRf 0 w_1)))]) hx hb hK hq 1 0 rfl rfl 0 rfl (by decide) (by decide) dX8_bad_9 rfl (fun H locs hq => ?_)
  obtain ⟨fRf_2, efRf_2⟩ : ∃ z : Nat → Int32, z = upd fRf 0 w_1 := ⟨_, rfl⟩
  rw [← efRf_2] at hq
  refine lv_iload_n hx hb dX8_bad_10 rfl (lv_at hl 1 rfl) ?_
  have hf : ((p1, fRf_2) : Int32 × (Nat → Int32)) = fX8_bad p1 fRf := by
    exact ((congrArg (fun (w_1 : Int32) => ((let fRf_2 : Nat → Int32 := upd fRf 0 w_1
  (p1, fRf_2)) : Int32 × (Nat → Int32))) ew_1.symm).trans ((congrArg (fun (fRf_2 : Nat → Int32) => (((p1, fRf_2)) : Int32 × (Nat → Int32))) efRf_2.symm))).symm
  have hf1 := congrArg Prod.fst hf
  have hf2 := congrArg Prod.snd hf
  exact kk_ei hx hb hr hlocks hK hq [0, 1] fRf_2 rfl (by decide) dX8_bad_11 ⟨hf1, hf2⟩
def fX8_size (p1 : Int64) : Int64 :=
  let z0_2 : Int64 := if p1 < 0 then -p1 else p1
  z0_2

set_option maxHeartbeats 4000000 in
set_option maxRecDepth 100000 in
theorem c_X8_size (l : Launch) (G : va_G) (p1 : Int64) : kCl l yX8_size (Cond.code yX8_size cX8_size 2 (some .long) :: wsL_law) ({ frames := 0, cells := 0, slots := 0, locals := 0 }) G [] [.long p1] [] (fun (r : Int64) (_ : Unit) => r = fX8_size p1) (fun (_ : Unit) => []) := by
  intro sz
  refine Met.ofW (cc := cX8_size) (maxL := 2) (ret := (some .long)) (by decide) rfl ?_
  intro p e s m args below meth c s₁ B hml hv
  obtain ⟨rfl, hv⟩ := hv
  obtain ⟨rfl, hK, hq, hA⟩ := kk_begin hv
  have hx := B.exec
  have hb := B.bytes
  have hr := B.returns
  have hts := atoms_spec (ws := (Cond.code yX8_size cX8_size 2 (some .long) :: wsL_law)) B.pre
  have hown : s.vm.findClass RX8 = some m.cls := findClass_of_methodNamed B.named
  have hlocks := B.notSynchronized
  have hsb : ∀ w ∈ wsL_law, w ∈ (Cond.code yX8_size cX8_size 2 (some .long) :: wsL_law) := fun _ h => List.mem_cons_of_mem _ h
  generalize va_A [] s.heap.size = A at hq hA ⊢
  have hl := lv_entry ([.long p1]) (n := 2) (Nat.le_of_ble_eq_true rfl)
  rw [lg_entry_eq]
  generalize (lg_sl ([.long p1]) ++ List.replicate (2 - (lg_sl ([.long p1])).length) Slot.unset).toArray = ls at hl ⊢
  have hl : lv_has ls 2 [(0, .long p1)] := hl
  refine lv_lload_n hx hb dX8_size_0 rfl (lv_at hl 0 rfl) ?_
  refine lv_lconst (v := 0) hx hb dX8_size_1 (by decide) ?_
  refine kk_join1 (fun (z0_2 : Int64) (H : Heap) (locs : List Loc) (ls : Array Slot) => z0_2 = (if p1 < 0 then -p1 else p1) ∧ lv_has ls 2 [(0, .long p1)] ∧ kAt G A s [] H locs) 12 (fun z0_2 => [.long z0_2]) (fun z0_2 H locs ls hv => ?_) (fun J_3 => ?_)
  · skip
    obtain ⟨ez0_2, hl, hq⟩ := hv
    have hf : (z0_2 : Int64) = fX8_size p1 := by
      exact ((congrArg (fun (z0_2 : Int64) => ((z0_2) : Int64)) ez0_2.symm)).symm
    exact kk_el hx hb hr hlocks hK hq [] () rfl (by decide) dX8_size_12 hf
  · skip
    refine kk_lc_ge (tgt := 11) hx hb dX8_size_2 dX8_size_3 (by decide) (fun c_1 => ?_) (fun c_1 => ?_)
    · skip
      refine lv_lload_n hx hb dX8_size_11 rfl (lv_at hl 0 rfl) ?_
      exact J_3 p1 _ _ _ ⟨(if_neg c_1).symm, lv_sub hl [0] rfl, hq⟩
    · skip
      refine lv_lload_n hx hb dX8_size_6 rfl (lv_at hl 0 rfl) ?_
      refine lv_lneg hx hb dX8_size_7 ?_
      refine lv_goto (tgt := 12) hx hb dX8_size_8 (by decide) ?_
      exact J_3 (-p1) _ _ _ ⟨(if_pos c_1).symm, lv_sub hl [0] rfl, hq⟩
def fX8_signOf (p1 : Int64) : Int32 :=
  let z0_2 : Int32 := if p1 < 0 then (-1) else if 0 < p1 then 1 else 0
  z0_2

set_option maxHeartbeats 4000000 in
set_option maxRecDepth 100000 in
theorem c_X8_signOf (l : Launch) (G : va_G) (p1 : Int64) : kCi l yX8_signOf (Cond.code yX8_signOf cX8_signOf 2 (some .int) :: wsL_law) ({ frames := 0, cells := 0, slots := 0, locals := 0 }) G [] [.long p1] [] (fun (r : Int32) (_ : Unit) => r = fX8_signOf p1) (fun (_ : Unit) => []) := by
  intro sz
  refine Met.ofW (cc := cX8_signOf) (maxL := 2) (ret := (some .int)) (by decide) rfl ?_
  intro p e s m args below meth c s₁ B hml hv
  obtain ⟨rfl, hv⟩ := hv
  obtain ⟨rfl, hK, hq, hA⟩ := kk_begin hv
  have hx := B.exec
  have hb := B.bytes
  have hr := B.returns
  have hts := atoms_spec (ws := (Cond.code yX8_signOf cX8_signOf 2 (some .int) :: wsL_law)) B.pre
  have hown : s.vm.findClass RX8 = some m.cls := findClass_of_methodNamed B.named
  have hlocks := B.notSynchronized
  have hsb : ∀ w ∈ wsL_law, w ∈ (Cond.code yX8_signOf cX8_signOf 2 (some .int) :: wsL_law) := fun _ h => List.mem_cons_of_mem _ h
  generalize va_A [] s.heap.size = A at hq hA ⊢
  have hl := lv_entry ([.long p1]) (n := 2) (Nat.le_of_ble_eq_true rfl)
  rw [lg_entry_eq]
  generalize (lg_sl ([.long p1]) ++ List.replicate (2 - (lg_sl ([.long p1])).length) Slot.unset).toArray = ls at hl ⊢
  have hl : lv_has ls 2 [(0, .long p1)] := hl
  refine lv_lload_n hx hb dX8_signOf_0 rfl (lv_at hl 0 rfl) ?_
  refine lv_lconst (v := 0) hx hb dX8_signOf_1 (by decide) ?_
  refine kk_join1 (fun (z0_2 : Int32) (H : Heap) (locs : List Loc) (ls : Array Slot) => z0_2 = (if p1 < 0 then (-1) else if 0 < p1 then 1 else 0) ∧ lv_has ls 2 [(0, .long p1)] ∧ kAt G A s [] H locs) 21 (fun z0_2 => [.int z0_2]) (fun z0_2 H locs ls hv => ?_) (fun J_3 => ?_)
  · skip
    obtain ⟨ez0_2, hl, hq⟩ := hv
    have hf : (z0_2 : Int32) = fX8_signOf p1 := by
      exact ((congrArg (fun (z0_2 : Int32) => ((z0_2) : Int32)) ez0_2.symm)).symm
    exact kk_ei hx hb hr hlocks hK hq [] () rfl (by decide) dX8_signOf_21 hf
  · skip
    refine kk_lc_ge (tgt := 10) hx hb dX8_signOf_2 dX8_signOf_3 (by decide) (fun c_1 => ?_) (fun c_1 => ?_)
    · skip
      refine lv_lload_n hx hb dX8_signOf_10 rfl (lv_at hl 0 rfl) ?_
      refine lv_lconst (v := 0) hx hb dX8_signOf_11 (by decide) ?_
      refine kk_lc_le (tgt := 20) hx hb dX8_signOf_12 dX8_signOf_13 (by decide) (fun c_4 => ?_) (fun c_4 => ?_)
      · skip
        refine lv_iconst (v := 0) hx hb dX8_signOf_20 (by decide) ?_
        exact J_3 0 _ _ _ ⟨((if_neg c_1).trans (if_neg c_4)).symm, lv_sub hl [0] rfl, hq⟩
      · skip
        refine lv_iconst (v := 1) hx hb dX8_signOf_16 (by decide) ?_
        refine lv_goto (tgt := 21) hx hb dX8_signOf_17 (by decide) ?_
        exact J_3 1 _ _ _ ⟨((if_neg c_1).trans (if_pos c_4)).symm, lv_sub hl [0] rfl, hq⟩
    · skip
      refine lv_iconst (v := -1) hx hb dX8_signOf_6 (by decide) ?_
      refine lv_goto (tgt := 21) hx hb dX8_signOf_7 (by decide) ?_
      exact J_3 (-1) _ _ _ ⟨(if_pos c_1).symm, lv_sub hl [0] rfl, hq⟩
def fX8_nameOf (p1 : Int32) : Int32 :=
  let z0_2 : Int32 := if p1 = 97 then 0 else if p1 = 118 then 1 else if p1 = 104 then 2 else if p1 = 116 then 3 else if p1 = 117 then 4 else if p1 = 107 then 5 else (-1)
  z0_2

set_option maxHeartbeats 4000000 in
set_option maxRecDepth 100000 in
theorem c_X8_nameOf (l : Launch) (G : va_G) (p1 : Int32) : kCi l yX8_nameOf (Cond.code yX8_nameOf cX8_nameOf 1 (some .int) :: wsL_law) ({ frames := 0, cells := 0, slots := 0, locals := 0 }) G [] [.int p1] [] (fun (r : Int32) (_ : Unit) => r = fX8_nameOf p1) (fun (_ : Unit) => []) := by
  intro sz
  refine Met.ofW (cc := cX8_nameOf) (maxL := 1) (ret := (some .int)) (by decide) rfl ?_
  intro p e s m args below meth c s₁ B hml hv
  obtain ⟨rfl, hv⟩ := hv
  obtain ⟨rfl, hK, hq, hA⟩ := kk_begin hv
  have hx := B.exec
  have hb := B.bytes
  have hr := B.returns
  have hts := atoms_spec (ws := (Cond.code yX8_nameOf cX8_nameOf 1 (some .int) :: wsL_law)) B.pre
  have hown : s.vm.findClass RX8 = some m.cls := findClass_of_methodNamed B.named
  have hlocks := B.notSynchronized
  have hsb : ∀ w ∈ wsL_law, w ∈ (Cond.code yX8_nameOf cX8_nameOf 1 (some .int) :: wsL_law) := fun _ h => List.mem_cons_of_mem _ h
  generalize va_A [] s.heap.size = A at hq hA ⊢
  have hl := lv_entry ([.int p1]) (n := 1) (Nat.le_of_ble_eq_true rfl)
  rw [lg_entry_eq]
  generalize (lg_sl ([.int p1]) ++ List.replicate (1 - (lg_sl ([.int p1])).length) Slot.unset).toArray = ls at hl ⊢
  have hl : lv_has ls 1 [(0, .int p1)] := hl
  refine lv_iload_n hx hb dX8_nameOf_0 rfl (lv_at hl 0 rfl) ?_
  refine lv_bipush (v := 97) hx hb dX8_nameOf_1 (by decide) ?_
  refine kk_join1 (fun (z0_2 : Int32) (H : Heap) (locs : List Loc) (ls : Array Slot) => z0_2 = (if p1 = 97 then 0 else if p1 = 118 then 1 else if p1 = 104 then 2 else if p1 = 116 then 3 else if p1 = 117 then 4 else if p1 = 107 then 5 else (-1)) ∧ lv_has ls 1 [(0, .int p1)] ∧ kAt G A s [] H locs) 61 (fun z0_2 => [.int z0_2]) (fun z0_2 H locs ls hv => ?_) (fun J_3 => ?_)
  · skip
    obtain ⟨ez0_2, hl, hq⟩ := hv
    have hf : (z0_2 : Int32) = fX8_nameOf p1 := by
      exact ((congrArg (fun (z0_2 : Int32) => ((z0_2) : Int32)) ez0_2.symm)).symm
    exact kk_ei hx hb hr hlocks hK hq [] () rfl (by decide) dX8_nameOf_61 hf
  · skip
    refine lv_icmp_ne (tgt := 10) hx hb dX8_nameOf_3 (by decide) (fun c_1 => ?_) (fun c_1 => ?_)
    · skip
      refine lv_iload_n hx hb dX8_nameOf_10 rfl (lv_at hl 0 rfl) ?_
      refine lv_bipush (v := 118) hx hb dX8_nameOf_11 (by decide) ?_
      refine lv_icmp_ne (tgt := 20) hx hb dX8_nameOf_13 (by decide) (fun c_4 => ?_) (fun c_4 => ?_)
      · skip
        refine lv_iload_n hx hb dX8_nameOf_20 rfl (lv_at hl 0 rfl) ?_
        refine lv_bipush (v := 104) hx hb dX8_nameOf_21 (by decide) ?_
        refine lv_icmp_ne (tgt := 30) hx hb dX8_nameOf_23 (by decide) (fun c_5 => ?_) (fun c_5 => ?_)
        · skip
          refine lv_iload_n hx hb dX8_nameOf_30 rfl (lv_at hl 0 rfl) ?_
          refine lv_bipush (v := 116) hx hb dX8_nameOf_31 (by decide) ?_
          refine lv_icmp_ne (tgt := 40) hx hb dX8_nameOf_33 (by decide) (fun c_6 => ?_) (fun c_6 => ?_)
          · skip
            refine lv_iload_n hx hb dX8_nameOf_40 rfl (lv_at hl 0 rfl) ?_
            refine lv_bipush (v := 117) hx hb dX8_nameOf_41 (by decide) ?_
            refine lv_icmp_ne (tgt := 50) hx hb dX8_nameOf_43 (by decide) (fun c_7 => ?_) (fun c_7 => ?_)
            · skip
              refine lv_iload_n hx hb dX8_nameOf_50 rfl (lv_at hl 0 rfl) ?_
              refine lv_bipush (v := 107) hx hb dX8_nameOf_51 (by decide) ?_
              refine lv_icmp_ne (tgt := 60) hx hb dX8_nameOf_53 (by decide) (fun c_8 => ?_) (fun c_8 => ?_)
              · skip
                refine lv_iconst (v := -1) hx hb dX8_nameOf_60 (by decide) ?_
                exact J_3 (-1) _ _ _ ⟨((if_neg c_1).trans ((if_neg c_4).trans ((if_neg c_5).trans ((if_neg c_6).trans ((if_neg c_7).trans (if_neg c_8)))))).symm, lv_sub hl [0] rfl, hq⟩
              · skip
                refine lv_iconst (v := 5) hx hb dX8_nameOf_56 (by decide) ?_
                refine lv_goto (tgt := 61) hx hb dX8_nameOf_57 (by decide) ?_
                exact J_3 5 _ _ _ ⟨((if_neg c_1).trans ((if_neg c_4).trans ((if_neg c_5).trans ((if_neg c_6).trans ((if_neg c_7).trans (if_pos c_8)))))).symm, lv_sub hl [0] rfl, hq⟩
            · skip
              refine lv_iconst (v := 4) hx hb dX8_nameOf_46 (by decide) ?_
              refine lv_goto (tgt := 61) hx hb dX8_nameOf_47 (by decide) ?_
              exact J_3 4 _ _ _ ⟨((if_neg c_1).trans ((if_neg c_4).trans ((if_neg c_5).trans ((if_neg c_6).trans (if_pos c_7))))).symm, lv_sub hl [0] rfl, hq⟩
          · skip
            refine lv_iconst (v := 3) hx hb dX8_nameOf_36 (by decide) ?_
            refine lv_goto (tgt := 61) hx hb dX8_nameOf_37 (by decide) ?_
            exact J_3 3 _ _ _ ⟨((if_neg c_1).trans ((if_neg c_4).trans ((if_neg c_5).trans (if_pos c_6)))).symm, lv_sub hl [0] rfl, hq⟩
        · skip
          refine lv_iconst (v := 2) hx hb dX8_nameOf_26 (by decide) ?_
          refine lv_goto (tgt := 61) hx hb dX8_nameOf_27 (by decide) ?_
          exact J_3 2 _ _ _ ⟨((if_neg c_1).trans ((if_neg c_4).trans (if_pos c_5))).symm, lv_sub hl [0] rfl, hq⟩
      · skip
        refine lv_iconst (v := 1) hx hb dX8_nameOf_16 (by decide) ?_
        refine lv_goto (tgt := 61) hx hb dX8_nameOf_17 (by decide) ?_
        exact J_3 1 _ _ _ ⟨((if_neg c_1).trans (if_pos c_4)).symm, lv_sub hl [0] rfl, hq⟩
    · skip
      refine lv_iconst (v := 0) hx hb dX8_nameOf_6 (by decide) ?_
      refine lv_goto (tgt := 61) hx hb dX8_nameOf_7 (by decide) ?_
      exact J_3 0 _ _ _ ⟨(if_pos c_1).symm, lv_sub hl [0] rfl, hq⟩
def fX8_rank (p1 : Int32) : Int32 :=
  if p1 = 38 then (
    2)
  else (
    if p1 = 42 then (
      5)
    else (
      if p1 = 43 then (
        4)
      else (
        if p1 = 45 then (
          4)
        else (
          if p1 = 47 then (
            5)
          else (
            if p1 = 60 then (
              3)
            else (
              if p1 = 61 then (
                3)
              else (
                if p1 = 62 then (
                  3)
                else (
                  if p1 = 124 then (
                    1)
                  else (
                    0)))))))))

set_option maxHeartbeats 4000000 in
set_option maxRecDepth 100000 in
theorem c_X8_rank (l : Launch) (G : va_G) (p1 : Int32) : kCi l yX8_rank (Cond.code yX8_rank cX8_rank 1 (some .int) :: wsL_law) ({ frames := 0, cells := 0, slots := 0, locals := 0 }) G [] [.int p1] [] (fun (r : Int32) (_ : Unit) => r = fX8_rank p1) (fun (_ : Unit) => []) := by
  intro sz
  refine Met.ofW (cc := cX8_rank) (maxL := 1) (ret := (some .int)) (by decide) rfl ?_
  intro p e s m args below meth c s₁ B hml hv
  obtain ⟨rfl, hv⟩ := hv
  obtain ⟨rfl, hK, hq, hA⟩ := kk_begin hv
  have hx := B.exec
  have hb := B.bytes
  have hr := B.returns
  have hts := atoms_spec (ws := (Cond.code yX8_rank cX8_rank 1 (some .int) :: wsL_law)) B.pre
  have hown : s.vm.findClass RX8 = some m.cls := findClass_of_methodNamed B.named
  have hlocks := B.notSynchronized
  have hsb : ∀ w ∈ wsL_law, w ∈ (Cond.code yX8_rank cX8_rank 1 (some .int) :: wsL_law) := fun _ h => List.mem_cons_of_mem _ h
  generalize va_A [] s.heap.size = A at hq hA ⊢
  have hl := lv_entry ([.int p1]) (n := 1) (Nat.le_of_ble_eq_true rfl)
  rw [lg_entry_eq]
  generalize (lg_sl ([.int p1]) ++ List.replicate (1 - (lg_sl ([.int p1])).length) Slot.unset).toArray = ls at hl ⊢
  have hl : lv_has ls 1 [(0, .int p1)] := hl
  refine lv_iload_n hx hb dX8_rank_0 rfl (lv_at hl 0 rfl) ?_
  refine kk_case (c := p1 = 38) (fun c_1 => ?_) (fun c_1 => ?_)
  · skip
    refine lv_lookup (off := 85) (tgt := 86) hx hb dX8_rank_1 (by decide) (by rw [c_1]; try rfl) (by decide) ?_
    refine lv_iconst (v := 2) hx hb dX8_rank_86 (by decide) ?_
    have hf : (2 : Int32) = fX8_rank p1 := by
      exact ((if_pos c_1)).symm
    exact kk_ei hx hb hr hlocks hK hq [] () rfl (by decide) dX8_rank_87 hf
  · skip
    refine kk_case (c := p1 = 42) (fun c_2 => ?_) (fun c_2 => ?_)
    · skip
      refine lv_lookup (off := 91) (tgt := 92) hx hb dX8_rank_1 (by decide) (by rw [c_2]; try rfl) (by decide) ?_
      refine lv_iconst (v := 5) hx hb dX8_rank_92 (by decide) ?_
      have hf : (5 : Int32) = fX8_rank p1 := by
        exact ((if_neg c_1).trans ((if_pos c_2))).symm
      exact kk_ei hx hb hr hlocks hK hq [] () rfl (by decide) dX8_rank_93 hf
    · skip
      refine kk_case (c := p1 = 43) (fun c_3 => ?_) (fun c_3 => ?_)
      · skip
        refine lv_lookup (off := 89) (tgt := 90) hx hb dX8_rank_1 (by decide) (by rw [c_3]; try rfl) (by decide) ?_
        refine lv_iconst (v := 4) hx hb dX8_rank_90 (by decide) ?_
        have hf : (4 : Int32) = fX8_rank p1 := by
          exact ((if_neg c_1).trans ((if_neg c_2).trans ((if_pos c_3)))).symm
        exact kk_ei hx hb hr hlocks hK hq [] () rfl (by decide) dX8_rank_91 hf
      · skip
        refine kk_case (c := p1 = 45) (fun c_4 => ?_) (fun c_4 => ?_)
        · skip
          refine lv_lookup (off := 89) (tgt := 90) hx hb dX8_rank_1 (by decide) (by rw [c_4]; try rfl) (by decide) ?_
          refine lv_iconst (v := 4) hx hb dX8_rank_90 (by decide) ?_
          have hf : (4 : Int32) = fX8_rank p1 := by
            exact ((if_neg c_1).trans ((if_neg c_2).trans ((if_neg c_3).trans ((if_pos c_4))))).symm
          exact kk_ei hx hb hr hlocks hK hq [] () rfl (by decide) dX8_rank_91 hf
        · skip
          refine kk_case (c := p1 = 47) (fun c_5 => ?_) (fun c_5 => ?_)
          · skip
            refine lv_lookup (off := 91) (tgt := 92) hx hb dX8_rank_1 (by decide) (by rw [c_5]; try rfl) (by decide) ?_
            refine lv_iconst (v := 5) hx hb dX8_rank_92 (by decide) ?_
            have hf : (5 : Int32) = fX8_rank p1 := by
              exact ((if_neg c_1).trans ((if_neg c_2).trans ((if_neg c_3).trans ((if_neg c_4).trans ((if_pos c_5)))))).symm
            exact kk_ei hx hb hr hlocks hK hq [] () rfl (by decide) dX8_rank_93 hf
          · skip
            refine kk_case (c := p1 = 60) (fun c_6 => ?_) (fun c_6 => ?_)
            · skip
              refine lv_lookup (off := 87) (tgt := 88) hx hb dX8_rank_1 (by decide) (by rw [c_6]; try rfl) (by decide) ?_
              refine lv_iconst (v := 3) hx hb dX8_rank_88 (by decide) ?_
              have hf : (3 : Int32) = fX8_rank p1 := by
                exact ((if_neg c_1).trans ((if_neg c_2).trans ((if_neg c_3).trans ((if_neg c_4).trans ((if_neg c_5).trans ((if_pos c_6))))))).symm
              exact kk_ei hx hb hr hlocks hK hq [] () rfl (by decide) dX8_rank_89 hf
            · skip
              refine kk_case (c := p1 = 61) (fun c_7 => ?_) (fun c_7 => ?_)
              · skip
                refine lv_lookup (off := 87) (tgt := 88) hx hb dX8_rank_1 (by decide) (by rw [c_7]; try rfl) (by decide) ?_
                refine lv_iconst (v := 3) hx hb dX8_rank_88 (by decide) ?_
                have hf : (3 : Int32) = fX8_rank p1 := by
                  exact ((if_neg c_1).trans ((if_neg c_2).trans ((if_neg c_3).trans ((if_neg c_4).trans ((if_neg c_5).trans ((if_neg c_6).trans ((if_pos c_7)))))))).symm
                exact kk_ei hx hb hr hlocks hK hq [] () rfl (by decide) dX8_rank_89 hf
              · skip
                refine kk_case (c := p1 = 62) (fun c_8 => ?_) (fun c_8 => ?_)
                · skip
                  refine lv_lookup (off := 87) (tgt := 88) hx hb dX8_rank_1 (by decide) (by rw [c_8]; try rfl) (by decide) ?_
                  refine lv_iconst (v := 3) hx hb dX8_rank_88 (by decide) ?_
                  have hf : (3 : Int32) = fX8_rank p1 := by
                    exact ((if_neg c_1).trans ((if_neg c_2).trans ((if_neg c_3).trans ((if_neg c_4).trans ((if_neg c_5).trans ((if_neg c_6).trans ((if_neg c_7).trans ((if_pos c_8))))))))).symm
                  exact kk_ei hx hb hr hlocks hK hq [] () rfl (by decide) dX8_rank_89 hf
                · skip
                  refine kk_case (c := p1 = 124) (fun c_9 => ?_) (fun c_9 => ?_)
                  · skip
                    refine lv_lookup (off := 83) (tgt := 84) hx hb dX8_rank_1 (by decide) (by rw [c_9]; try rfl) (by decide) ?_
                    refine lv_iconst (v := 1) hx hb dX8_rank_84 (by decide) ?_
                    have hf : (1 : Int32) = fX8_rank p1 := by
                      exact ((if_neg c_1).trans ((if_neg c_2).trans ((if_neg c_3).trans ((if_neg c_4).trans ((if_neg c_5).trans ((if_neg c_6).trans ((if_neg c_7).trans ((if_neg c_8).trans ((if_pos c_9)))))))))).symm
                    exact kk_ei hx hb hr hlocks hK hq [] () rfl (by decide) dX8_rank_85 hf
                  · skip
                    refine lv_lookup (off := 93) (tgt := 94) hx hb dX8_rank_1 (by decide) (kk_lk (kk_ne (k := 38) c_1 (by decide)) (kk_lk (kk_ne (k := 42) c_2 (by decide)) (kk_lk (kk_ne (k := 43) c_3 (by decide)) (kk_lk (kk_ne (k := 45) c_4 (by decide)) (kk_lk (kk_ne (k := 47) c_5 (by decide)) (kk_lk (kk_ne (k := 60) c_6 (by decide)) (kk_lk (kk_ne (k := 61) c_7 (by decide)) (kk_lk (kk_ne (k := 62) c_8 (by decide)) (kk_lk (kk_ne (k := 124) c_9 (by decide)) rfl))))))))) (by decide) ?_
                    refine lv_iconst (v := 0) hx hb dX8_rank_94 (by decide) ?_
                    have hf : (0 : Int32) = fX8_rank p1 := by
                      exact ((if_neg c_1).trans ((if_neg c_2).trans ((if_neg c_3).trans ((if_neg c_4).trans ((if_neg c_5).trans ((if_neg c_6).trans ((if_neg c_7).trans ((if_neg c_8).trans ((if_neg c_9)))))))))).symm
                    exact kk_ei hx hb hr hlocks hK hq [] () rfl (by decide) dX8_rank_95 hf
theorem hd_X8_in : yX8_in.cls ≠ "java/lang/invoke/MethodHandle" ∧ yX8_in.cls ≠ "java/lang/invoke/VarHandle" ∧ (parseMethodDescriptor yX8_in.desc).map (fun d => d.parameters.length) = some 3 := by decide +kernel
def fX8_fitsNumber (p1 : Int32) (p2 : Int32) : Int32 :=
  if p1 = 0 then (
    let r_3 : Int32 := fX8_in p2.toInt64 50 400
    r_3)
  else (
    if p1 = 1 then (
      let r_7 : Int32 := fX8_in p2.toInt64 1 9
      r_7)
    else (
      if p1 = 2 then (
        let r_11 : Int32 := fX8_in p2.toInt64 0 50
        r_11)
      else (
        if p1 = 3 then (
          let r_15 : Int32 := fX8_in p2.toInt64 0 4
          r_15)
        else (
          if p1 = 4 then (
            let r_19 : Int32 := fX8_in p2.toInt64 1 9
            r_19)
          else (
            if p1 = 5 then (
              let r_23 : Int32 := fX8_in p2.toInt64 (-90) 90
              r_23)
            else (
              if p1 = 6 then (
                let r_27 : Int32 := fX8_in p2.toInt64 0 50
                r_27)
              else (
                if p1 = 7 then (
                  let r_31 : Int32 := fX8_in p2.toInt64 50 400
                  r_31)
                else (
                  0))))))))

set_option maxHeartbeats 4000000 in
set_option maxRecDepth 100000 in
theorem c_X8_fitsNumber (l : Launch) (G : va_G) (p1 : Int32) (p2 : Int32) : kCi l yX8_fitsNumber (Cond.code yX8_fitsNumber cX8_fitsNumber 2 (some .boolean) :: wsL_law) ({ frames := 1, cells := 0, slots := 0, locals := 25 }) G [] [.int p1, .int p2] [] (fun (r : Int32) (_ : Unit) => r = fX8_fitsNumber p1 p2 ∧ (r = 0 ∨ r = 1)) (fun (_ : Unit) => []) := by
  intro sz
  refine Met.ofW (cc := cX8_fitsNumber) (maxL := 2) (ret := (some .boolean)) (by decide) rfl ?_
  intro p e s m args below meth c s₁ B hml hv
  obtain ⟨rfl, hv⟩ := hv
  obtain ⟨rfl, hK, hq, hA⟩ := kk_begin hv
  have hx := B.exec
  have hb := B.bytes
  have hr := B.returns
  have hts := atoms_spec (ws := (Cond.code yX8_fitsNumber cX8_fitsNumber 2 (some .boolean) :: wsL_law)) B.pre
  have hown : s.vm.findClass RX8 = some m.cls := findClass_of_methodNamed B.named
  have hlocks := B.notSynchronized
  have hsb : ∀ w ∈ wsL_law, w ∈ (Cond.code yX8_fitsNumber cX8_fitsNumber 2 (some .boolean) :: wsL_law) := fun _ h => List.mem_cons_of_mem _ h
  generalize va_A [] s.heap.size = A at hq hA ⊢
  have lk0_ := hts _ (hsb _ wd_150)
  have lk1_ := hts _ (hsb _ wd_151)
  have lk2_ := hts _ (hsb _ wd_152)
  have lk3_ := hts _ (hsb _ wd_153)
  have lk4_ := hts _ (hsb _ wd_154)
  have lk5_ := hts _ (hsb _ wd_155)
  have hl := lv_entry ([.int p1, .int p2]) (n := 2) (Nat.le_of_ble_eq_true rfl)
  rw [lg_entry_eq]
  generalize (lg_sl ([.int p1, .int p2]) ++ List.replicate (2 - (lg_sl ([.int p1, .int p2])).length) Slot.unset).toArray = ls at hl ⊢
  have hl : lv_has ls 2 [(0, .int p1), (1, .int p2)] := hl
  refine lv_iload_n hx hb dX8_fitsNumber_0 rfl (lv_at hl 0 rfl) ?_
  refine kk_case (c := p1 = 0) (fun c_1 => ?_) (fun c_1 => ?_)
  · skip
    refine lv_tableIn (tgt := 48) hx hb dX8_fitsNumber_1 (by rw [c_1]; decide) (by rw [c_1]; decide) (by rw [c_1]; try rfl) (by decide) ?_
    refine lv_iload_n hx hb dX8_fitsNumber_48 rfl (lv_at hl 1 rfl) ?_
    refine lv_i2l hx hb dX8_fitsNumber_49 rfl ?_
    refine lv_ldc2 hx hb hown lk0_ dX8_fitsNumber_50 ?_
    refine lv_ldc2 hx hb hown lk1_ dX8_fitsNumber_53 ?_
    refine kk_Si (As := [.long p2.toInt64, .long 50, .long 400]) (rest := []) (wr := []) ⟨hx, hb, hml, hown, hts⟩ (c_X8_in l G p2.toInt64 50 400) (kk_cwS 3 hts hsb wd_156 wd_157 wd_5 wd_158 rfl rfl hd_X8_in ⟨Nat.le_of_ble_eq_true rfl, Nat.le_of_ble_eq_true rfl⟩) hA hK hq [] [] [] rfl rfl rfl (by decide) (by decide) (by decide) rfl hl.1 rfl (Nat.le_of_ble_eq_true rfl) dX8_fitsNumber_56 ⟨Nat.zero_le _, Nat.zero_le _⟩ (fun r_3 u_2 H locs h_4 hq => ?_)
    obtain ⟨er_3, zr_3⟩ := h_4
    have hq : kAt G A s [] H locs := hq
    have hf : (r_3 : Int32) = fX8_fitsNumber p1 p2 := by
      exact ((if_pos c_1).trans ((congrArg (fun (r_3 : Int32) => ((r_3) : Int32)) er_3.symm))).symm
    have hz : (r_3 : Int32) = 0 ∨ (r_3 : Int32) = 1 := zr_3
    exact kk_ez hx hb hr hlocks hz hK hq [] () rfl (by decide) dX8_fitsNumber_59 ⟨hf, hz⟩
  · skip
    refine kk_case (c := p1 = 1) (fun c_5 => ?_) (fun c_5 => ?_)
    · skip
      refine lv_tableIn (tgt := 60) hx hb dX8_fitsNumber_1 (by rw [c_5]; decide) (by rw [c_5]; decide) (by rw [c_5]; try rfl) (by decide) ?_
      refine lv_iload_n hx hb dX8_fitsNumber_60 rfl (lv_at hl 1 rfl) ?_
      refine lv_i2l hx hb dX8_fitsNumber_61 rfl ?_
      refine lv_lconst (v := 1) hx hb dX8_fitsNumber_62 (by decide) ?_
      refine lv_ldc2 hx hb hown lk2_ dX8_fitsNumber_63 ?_
      refine kk_Si (As := [.long p2.toInt64, .long 1, .long 9]) (rest := []) (wr := []) ⟨hx, hb, hml, hown, hts⟩ (c_X8_in l G p2.toInt64 1 9) (kk_cwS 3 hts hsb wd_156 wd_157 wd_5 wd_158 rfl rfl hd_X8_in ⟨Nat.le_of_ble_eq_true rfl, Nat.le_of_ble_eq_true rfl⟩) hA hK hq [] [] [] rfl rfl rfl (by decide) (by decide) (by decide) rfl hl.1 rfl (Nat.le_of_ble_eq_true rfl) dX8_fitsNumber_66 ⟨Nat.zero_le _, Nat.zero_le _⟩ (fun r_7 u_6 H locs h_8 hq => ?_)
      obtain ⟨er_7, zr_7⟩ := h_8
      have hq : kAt G A s [] H locs := hq
      have hf : (r_7 : Int32) = fX8_fitsNumber p1 p2 := by
        exact ((if_neg c_1).trans ((if_pos c_5).trans ((congrArg (fun (r_7 : Int32) => ((r_7) : Int32)) er_7.symm)))).symm
      have hz : (r_7 : Int32) = 0 ∨ (r_7 : Int32) = 1 := zr_7
      exact kk_ez hx hb hr hlocks hz hK hq [] () rfl (by decide) dX8_fitsNumber_69 ⟨hf, hz⟩
    · skip
      refine kk_case (c := p1 = 2) (fun c_9 => ?_) (fun c_9 => ?_)
      · skip
        refine lv_tableIn (tgt := 70) hx hb dX8_fitsNumber_1 (by rw [c_9]; decide) (by rw [c_9]; decide) (by rw [c_9]; try rfl) (by decide) ?_
        refine lv_iload_n hx hb dX8_fitsNumber_70 rfl (lv_at hl 1 rfl) ?_
        refine lv_i2l hx hb dX8_fitsNumber_71 rfl ?_
        refine lv_lconst (v := 0) hx hb dX8_fitsNumber_72 (by decide) ?_
        refine lv_ldc2 hx hb hown lk0_ dX8_fitsNumber_73 ?_
        refine kk_Si (As := [.long p2.toInt64, .long 0, .long 50]) (rest := []) (wr := []) ⟨hx, hb, hml, hown, hts⟩ (c_X8_in l G p2.toInt64 0 50) (kk_cwS 3 hts hsb wd_156 wd_157 wd_5 wd_158 rfl rfl hd_X8_in ⟨Nat.le_of_ble_eq_true rfl, Nat.le_of_ble_eq_true rfl⟩) hA hK hq [] [] [] rfl rfl rfl (by decide) (by decide) (by decide) rfl hl.1 rfl (Nat.le_of_ble_eq_true rfl) dX8_fitsNumber_76 ⟨Nat.zero_le _, Nat.zero_le _⟩ (fun r_11 u_10 H locs h_12 hq => ?_)
        obtain ⟨er_11, zr_11⟩ := h_12
        have hq : kAt G A s [] H locs := hq
        have hf : (r_11 : Int32) = fX8_fitsNumber p1 p2 := by
          exact ((if_neg c_1).trans ((if_neg c_5).trans ((if_pos c_9).trans ((congrArg (fun (r_11 : Int32) => ((r_11) : Int32)) er_11.symm))))).symm
        have hz : (r_11 : Int32) = 0 ∨ (r_11 : Int32) = 1 := zr_11
        exact kk_ez hx hb hr hlocks hz hK hq [] () rfl (by decide) dX8_fitsNumber_79 ⟨hf, hz⟩
      · skip
        refine kk_case (c := p1 = 3) (fun c_13 => ?_) (fun c_13 => ?_)
        · skip
          refine lv_tableIn (tgt := 80) hx hb dX8_fitsNumber_1 (by rw [c_13]; decide) (by rw [c_13]; decide) (by rw [c_13]; try rfl) (by decide) ?_
          refine lv_iload_n hx hb dX8_fitsNumber_80 rfl (lv_at hl 1 rfl) ?_
          refine lv_i2l hx hb dX8_fitsNumber_81 rfl ?_
          refine lv_lconst (v := 0) hx hb dX8_fitsNumber_82 (by decide) ?_
          refine lv_ldc2 hx hb hown lk3_ dX8_fitsNumber_83 ?_
          refine kk_Si (As := [.long p2.toInt64, .long 0, .long 4]) (rest := []) (wr := []) ⟨hx, hb, hml, hown, hts⟩ (c_X8_in l G p2.toInt64 0 4) (kk_cwS 3 hts hsb wd_156 wd_157 wd_5 wd_158 rfl rfl hd_X8_in ⟨Nat.le_of_ble_eq_true rfl, Nat.le_of_ble_eq_true rfl⟩) hA hK hq [] [] [] rfl rfl rfl (by decide) (by decide) (by decide) rfl hl.1 rfl (Nat.le_of_ble_eq_true rfl) dX8_fitsNumber_86 ⟨Nat.zero_le _, Nat.zero_le _⟩ (fun r_15 u_14 H locs h_16 hq => ?_)
          obtain ⟨er_15, zr_15⟩ := h_16
          have hq : kAt G A s [] H locs := hq
          have hf : (r_15 : Int32) = fX8_fitsNumber p1 p2 := by
            exact ((if_neg c_1).trans ((if_neg c_5).trans ((if_neg c_9).trans ((if_pos c_13).trans ((congrArg (fun (r_15 : Int32) => ((r_15) : Int32)) er_15.symm)))))).symm
          have hz : (r_15 : Int32) = 0 ∨ (r_15 : Int32) = 1 := zr_15
          exact kk_ez hx hb hr hlocks hz hK hq [] () rfl (by decide) dX8_fitsNumber_89 ⟨hf, hz⟩
        · skip
          refine kk_case (c := p1 = 4) (fun c_17 => ?_) (fun c_17 => ?_)
          · skip
            refine lv_tableIn (tgt := 60) hx hb dX8_fitsNumber_1 (by rw [c_17]; decide) (by rw [c_17]; decide) (by rw [c_17]; try rfl) (by decide) ?_
            refine lv_iload_n hx hb dX8_fitsNumber_60 rfl (lv_at hl 1 rfl) ?_
            refine lv_i2l hx hb dX8_fitsNumber_61 rfl ?_
            refine lv_lconst (v := 1) hx hb dX8_fitsNumber_62 (by decide) ?_
            refine lv_ldc2 hx hb hown lk2_ dX8_fitsNumber_63 ?_
            refine kk_Si (As := [.long p2.toInt64, .long 1, .long 9]) (rest := []) (wr := []) ⟨hx, hb, hml, hown, hts⟩ (c_X8_in l G p2.toInt64 1 9) (kk_cwS 3 hts hsb wd_156 wd_157 wd_5 wd_158 rfl rfl hd_X8_in ⟨Nat.le_of_ble_eq_true rfl, Nat.le_of_ble_eq_true rfl⟩) hA hK hq [] [] [] rfl rfl rfl (by decide) (by decide) (by decide) rfl hl.1 rfl (Nat.le_of_ble_eq_true rfl) dX8_fitsNumber_66 ⟨Nat.zero_le _, Nat.zero_le _⟩ (fun r_19 u_18 H locs h_20 hq => ?_)
            obtain ⟨er_19, zr_19⟩ := h_20
            have hq : kAt G A s [] H locs := hq
            have hf : (r_19 : Int32) = fX8_fitsNumber p1 p2 := by
              exact ((if_neg c_1).trans ((if_neg c_5).trans ((if_neg c_9).trans ((if_neg c_13).trans ((if_pos c_17).trans ((congrArg (fun (r_19 : Int32) => ((r_19) : Int32)) er_19.symm))))))).symm
            have hz : (r_19 : Int32) = 0 ∨ (r_19 : Int32) = 1 := zr_19
            exact kk_ez hx hb hr hlocks hz hK hq [] () rfl (by decide) dX8_fitsNumber_69 ⟨hf, hz⟩
          · skip
            refine kk_case (c := p1 = 5) (fun c_21 => ?_) (fun c_21 => ?_)
            · skip
              refine lv_tableIn (tgt := 90) hx hb dX8_fitsNumber_1 (by rw [c_21]; decide) (by rw [c_21]; decide) (by rw [c_21]; try rfl) (by decide) ?_
              refine lv_iload_n hx hb dX8_fitsNumber_90 rfl (lv_at hl 1 rfl) ?_
              refine lv_i2l hx hb dX8_fitsNumber_91 rfl ?_
              refine lv_ldc2 hx hb hown lk4_ dX8_fitsNumber_92 ?_
              refine lv_ldc2 hx hb hown lk5_ dX8_fitsNumber_95 ?_
              refine kk_Si (As := [.long p2.toInt64, .long (-90), .long 90]) (rest := []) (wr := []) ⟨hx, hb, hml, hown, hts⟩ (c_X8_in l G p2.toInt64 (-90) 90) (kk_cwS 3 hts hsb wd_156 wd_157 wd_5 wd_158 rfl rfl hd_X8_in ⟨Nat.le_of_ble_eq_true rfl, Nat.le_of_ble_eq_true rfl⟩) hA hK hq [] [] [] rfl rfl rfl (by decide) (by decide) (by decide) rfl hl.1 rfl (Nat.le_of_ble_eq_true rfl) dX8_fitsNumber_98 ⟨Nat.zero_le _, Nat.zero_le _⟩ (fun r_23 u_22 H locs h_24 hq => ?_)
              obtain ⟨er_23, zr_23⟩ := h_24
              have hq : kAt G A s [] H locs := hq
              have hf : (r_23 : Int32) = fX8_fitsNumber p1 p2 := by
                exact ((if_neg c_1).trans ((if_neg c_5).trans ((if_neg c_9).trans ((if_neg c_13).trans ((if_neg c_17).trans ((if_pos c_21).trans ((congrArg (fun (r_23 : Int32) => ((r_23) : Int32)) er_23.symm)))))))).symm
              have hz : (r_23 : Int32) = 0 ∨ (r_23 : Int32) = 1 := zr_23
              exact kk_ez hx hb hr hlocks hz hK hq [] () rfl (by decide) dX8_fitsNumber_101 ⟨hf, hz⟩
            · skip
              refine kk_case (c := p1 = 6) (fun c_25 => ?_) (fun c_25 => ?_)
              · skip
                refine lv_tableIn (tgt := 70) hx hb dX8_fitsNumber_1 (by rw [c_25]; decide) (by rw [c_25]; decide) (by rw [c_25]; try rfl) (by decide) ?_
                refine lv_iload_n hx hb dX8_fitsNumber_70 rfl (lv_at hl 1 rfl) ?_
                refine lv_i2l hx hb dX8_fitsNumber_71 rfl ?_
                refine lv_lconst (v := 0) hx hb dX8_fitsNumber_72 (by decide) ?_
                refine lv_ldc2 hx hb hown lk0_ dX8_fitsNumber_73 ?_
                refine kk_Si (As := [.long p2.toInt64, .long 0, .long 50]) (rest := []) (wr := []) ⟨hx, hb, hml, hown, hts⟩ (c_X8_in l G p2.toInt64 0 50) (kk_cwS 3 hts hsb wd_156 wd_157 wd_5 wd_158 rfl rfl hd_X8_in ⟨Nat.le_of_ble_eq_true rfl, Nat.le_of_ble_eq_true rfl⟩) hA hK hq [] [] [] rfl rfl rfl (by decide) (by decide) (by decide) rfl hl.1 rfl (Nat.le_of_ble_eq_true rfl) dX8_fitsNumber_76 ⟨Nat.zero_le _, Nat.zero_le _⟩ (fun r_27 u_26 H locs h_28 hq => ?_)
                obtain ⟨er_27, zr_27⟩ := h_28
                have hq : kAt G A s [] H locs := hq
                have hf : (r_27 : Int32) = fX8_fitsNumber p1 p2 := by
                  exact ((if_neg c_1).trans ((if_neg c_5).trans ((if_neg c_9).trans ((if_neg c_13).trans ((if_neg c_17).trans ((if_neg c_21).trans ((if_pos c_25).trans ((congrArg (fun (r_27 : Int32) => ((r_27) : Int32)) er_27.symm))))))))).symm
                have hz : (r_27 : Int32) = 0 ∨ (r_27 : Int32) = 1 := zr_27
                exact kk_ez hx hb hr hlocks hz hK hq [] () rfl (by decide) dX8_fitsNumber_79 ⟨hf, hz⟩
              · skip
                refine kk_case (c := p1 = 7) (fun c_29 => ?_) (fun c_29 => ?_)
                · skip
                  refine lv_tableIn (tgt := 48) hx hb dX8_fitsNumber_1 (by rw [c_29]; decide) (by rw [c_29]; decide) (by rw [c_29]; try rfl) (by decide) ?_
                  refine lv_iload_n hx hb dX8_fitsNumber_48 rfl (lv_at hl 1 rfl) ?_
                  refine lv_i2l hx hb dX8_fitsNumber_49 rfl ?_
                  refine lv_ldc2 hx hb hown lk0_ dX8_fitsNumber_50 ?_
                  refine lv_ldc2 hx hb hown lk1_ dX8_fitsNumber_53 ?_
                  refine kk_Si (As := [.long p2.toInt64, .long 50, .long 400]) (rest := []) (wr := []) ⟨hx, hb, hml, hown, hts⟩ (c_X8_in l G p2.toInt64 50 400) (kk_cwS 3 hts hsb wd_156 wd_157 wd_5 wd_158 rfl rfl hd_X8_in ⟨Nat.le_of_ble_eq_true rfl, Nat.le_of_ble_eq_true rfl⟩) hA hK hq [] [] [] rfl rfl rfl (by decide) (by decide) (by decide) rfl hl.1 rfl (Nat.le_of_ble_eq_true rfl) dX8_fitsNumber_56 ⟨Nat.zero_le _, Nat.zero_le _⟩ (fun r_31 u_30 H locs h_32 hq => ?_)
                  obtain ⟨er_31, zr_31⟩ := h_32
                  have hq : kAt G A s [] H locs := hq
                  have hf : (r_31 : Int32) = fX8_fitsNumber p1 p2 := by
                    exact ((if_neg c_1).trans ((if_neg c_5).trans ((if_neg c_9).trans ((if_neg c_13).trans ((if_neg c_17).trans ((if_neg c_21).trans ((if_neg c_25).trans ((if_pos c_29).trans ((congrArg (fun (r_31 : Int32) => ((r_31) : Int32)) er_31.symm)))))))))).symm
                  have hz : (r_31 : Int32) = 0 ∨ (r_31 : Int32) = 1 := zr_31
                  exact kk_ez hx hb hr hlocks hz hK hq [] () rfl (by decide) dX8_fitsNumber_59 ⟨hf, hz⟩
                · skip
                  refine lv_tableOut (tgt := 102) hx hb dX8_fitsNumber_1 (by have := kk_ne (k := 0) c_1 (by decide); have := kk_ne (k := 1) c_5 (by decide); have := kk_ne (k := 2) c_9 (by decide); have := kk_ne (k := 3) c_13 (by decide); have := kk_ne (k := 4) c_17 (by decide); have := kk_ne (k := 5) c_21 (by decide); have := kk_ne (k := 6) c_25 (by decide); have := kk_ne (k := 7) c_29 (by decide); omega) (by decide) ?_
                  refine lv_iconst (v := 0) hx hb dX8_fitsNumber_102 (by decide) ?_
                  have hf : (0 : Int32) = fX8_fitsNumber p1 p2 := by
                    exact ((if_neg c_1).trans ((if_neg c_5).trans ((if_neg c_9).trans ((if_neg c_13).trans ((if_neg c_17).trans ((if_neg c_21).trans ((if_neg c_25).trans ((if_neg c_29))))))))).symm
                  have hz : (0 : Int32) = 0 ∨ (0 : Int32) = 1 := Or.inl rfl
                  exact kk_ez hx hb hr hlocks hz hK hq [] () rfl (by decide) dX8_fitsNumber_103 ⟨hf, hz⟩
def fX8_isForce (p1 : Int32) : Int32 :=
  let r_2 : Int32 := fX8_in p1.toInt64 (-30000) 30000
  r_2

set_option maxHeartbeats 4000000 in
set_option maxRecDepth 100000 in
theorem c_X8_isForce (l : Launch) (G : va_G) (p1 : Int32) : kCi l yX8_isForce (Cond.code yX8_isForce cX8_isForce 1 (some .boolean) :: wsL_law) ({ frames := 1, cells := 0, slots := 0, locals := 25 }) G [] [.int p1] [] (fun (r : Int32) (_ : Unit) => r = fX8_isForce p1 ∧ (r = 0 ∨ r = 1)) (fun (_ : Unit) => []) := by
  intro sz
  refine Met.ofW (cc := cX8_isForce) (maxL := 1) (ret := (some .boolean)) (by decide) rfl ?_
  intro p e s m args below meth c s₁ B hml hv
  obtain ⟨rfl, hv⟩ := hv
  obtain ⟨rfl, hK, hq, hA⟩ := kk_begin hv
  have hx := B.exec
  have hb := B.bytes
  have hr := B.returns
  have hts := atoms_spec (ws := (Cond.code yX8_isForce cX8_isForce 1 (some .boolean) :: wsL_law)) B.pre
  have hown : s.vm.findClass RX8 = some m.cls := findClass_of_methodNamed B.named
  have hlocks := B.notSynchronized
  have hsb : ∀ w ∈ wsL_law, w ∈ (Cond.code yX8_isForce cX8_isForce 1 (some .boolean) :: wsL_law) := fun _ h => List.mem_cons_of_mem _ h
  generalize va_A [] s.heap.size = A at hq hA ⊢
  have lk0_ := hts _ (hsb _ wd_349)
  have lk1_ := hts _ (hsb _ wd_350)
  have hl := lv_entry ([.int p1]) (n := 1) (Nat.le_of_ble_eq_true rfl)
  rw [lg_entry_eq]
  generalize (lg_sl ([.int p1]) ++ List.replicate (1 - (lg_sl ([.int p1])).length) Slot.unset).toArray = ls at hl ⊢
  have hl : lv_has ls 1 [(0, .int p1)] := hl
  refine lv_iload_n hx hb dX8_isForce_0 rfl (lv_at hl 0 rfl) ?_
  refine lv_i2l hx hb dX8_isForce_1 rfl ?_
  refine lv_ldc2 hx hb hown lk0_ dX8_isForce_2 ?_
  refine lv_ldc2 hx hb hown lk1_ dX8_isForce_5 ?_
  refine kk_Si (As := [.long p1.toInt64, .long (-30000), .long 30000]) (rest := []) (wr := []) ⟨hx, hb, hml, hown, hts⟩ (c_X8_in l G p1.toInt64 (-30000) 30000) (kk_cwS 3 hts hsb wd_156 wd_157 wd_5 wd_158 rfl rfl hd_X8_in ⟨Nat.le_of_ble_eq_true rfl, Nat.le_of_ble_eq_true rfl⟩) hA hK hq [] [] [] rfl rfl rfl (by decide) (by decide) (by decide) rfl hl.1 rfl (Nat.le_of_ble_eq_true rfl) dX8_isForce_8 ⟨Nat.zero_le _, Nat.zero_le _⟩ (fun r_2 u_1 H locs h_3 hq => ?_)
  obtain ⟨er_2, zr_2⟩ := h_3
  have hq : kAt G A s [] H locs := hq
  have hf : (r_2 : Int32) = fX8_isForce p1 := by
    exact ((congrArg (fun (r_2 : Int32) => ((r_2) : Int32)) er_2.symm)).symm
  have hz : (r_2 : Int32) = 0 ∨ (r_2 : Int32) = 1 := zr_2
  exact kk_ez hx hb hr hlocks hz hK hq [] () rfl (by decide) dX8_isForce_11 ⟨hf, hz⟩
def fX8_isRun (p1 : Int32) : Int32 :=
  let r_2 : Int32 := fX8_in p1.toInt64 1 500
  r_2

set_option maxHeartbeats 4000000 in
set_option maxRecDepth 100000 in
theorem c_X8_isRun (l : Launch) (G : va_G) (p1 : Int32) : kCi l yX8_isRun (Cond.code yX8_isRun cX8_isRun 1 (some .boolean) :: wsL_law) ({ frames := 1, cells := 0, slots := 0, locals := 25 }) G [] [.int p1] [] (fun (r : Int32) (_ : Unit) => r = fX8_isRun p1 ∧ (r = 0 ∨ r = 1)) (fun (_ : Unit) => []) := by
  intro sz
  refine Met.ofW (cc := cX8_isRun) (maxL := 1) (ret := (some .boolean)) (by decide) rfl ?_
  intro p e s m args below meth c s₁ B hml hv
  obtain ⟨rfl, hv⟩ := hv
  obtain ⟨rfl, hK, hq, hA⟩ := kk_begin hv
  have hx := B.exec
  have hb := B.bytes
  have hr := B.returns
  have hts := atoms_spec (ws := (Cond.code yX8_isRun cX8_isRun 1 (some .boolean) :: wsL_law)) B.pre
  have hown : s.vm.findClass RX8 = some m.cls := findClass_of_methodNamed B.named
  have hlocks := B.notSynchronized
  have hsb : ∀ w ∈ wsL_law, w ∈ (Cond.code yX8_isRun cX8_isRun 1 (some .boolean) :: wsL_law) := fun _ h => List.mem_cons_of_mem _ h
  generalize va_A [] s.heap.size = A at hq hA ⊢
  have lk0_ := hts _ (hsb _ wd_539)
  have hl := lv_entry ([.int p1]) (n := 1) (Nat.le_of_ble_eq_true rfl)
  rw [lg_entry_eq]
  generalize (lg_sl ([.int p1]) ++ List.replicate (1 - (lg_sl ([.int p1])).length) Slot.unset).toArray = ls at hl ⊢
  have hl : lv_has ls 1 [(0, .int p1)] := hl
  refine lv_iload_n hx hb dX8_isRun_0 rfl (lv_at hl 0 rfl) ?_
  refine lv_i2l hx hb dX8_isRun_1 rfl ?_
  refine lv_lconst (v := 1) hx hb dX8_isRun_2 (by decide) ?_
  refine lv_ldc2 hx hb hown lk0_ dX8_isRun_3 ?_
  refine kk_Si (As := [.long p1.toInt64, .long 1, .long 500]) (rest := []) (wr := []) ⟨hx, hb, hml, hown, hts⟩ (c_X8_in l G p1.toInt64 1 500) (kk_cwS 3 hts hsb wd_156 wd_157 wd_5 wd_158 rfl rfl hd_X8_in ⟨Nat.le_of_ble_eq_true rfl, Nat.le_of_ble_eq_true rfl⟩) hA hK hq [] [] [] rfl rfl rfl (by decide) (by decide) (by decide) rfl hl.1 rfl (Nat.le_of_ble_eq_true rfl) dX8_isRun_6 ⟨Nat.zero_le _, Nat.zero_le _⟩ (fun r_2 u_1 H locs h_3 hq => ?_)
  obtain ⟨er_2, zr_2⟩ := h_3
  have hq : kAt G A s [] H locs := hq
  have hf : (r_2 : Int32) = fX8_isRun p1 := by
    exact ((congrArg (fun (r_2 : Int32) => ((r_2) : Int32)) er_2.symm)).symm
  have hz : (r_2 : Int32) = 0 ∨ (r_2 : Int32) = 1 := zr_2
  exact kk_ez hx hb hr hlocks hz hK hq [] () rfl (by decide) dX8_isRun_9 ⟨hf, hz⟩
def fX8_of (p1 : Int32) (fNw : Nat → Int64) : Int64 :=
  fNw (53 + p1.toNatClampNeg)

set_option maxHeartbeats 4000000 in
set_option maxRecDepth 100000 in
theorem c_X8_of (l : Launch) (G : va_G) (aM aNw rM_kept rM_isKept rM_refused rM_values rM_signs rM_was : Nat) (cNw : ClassId) (p1 : Int32) (M_at : Int32) (M_fault : Int32) (M_valueMany : Int32) (M_signMany : Int32) (M_tells : Int64) (M_way : Int32) (M_wish : Int32) (M_moreTick : Int64) (M_moreForce : Int64) (M_runTurns : Int32) (M_runFirst : Int64) (M_runLast : Int64) (M_peak : Int64) (M_beside : Int64) (M_besideAt : Int32) (fNw : Nat → Int64) (h0 : 0 ≤ p1.toInt) (h8 : p1.toInt < 8) : kCl l yX8_of (Cond.code yX8_of cX8_of 2 (some .long) :: wsL_law) ({ frames := 0, cells := 0, slots := 0, locals := 0 }) G [(cNw, .long)] [.ref aM, .int p1] [(aM, .inr (8, [.ref aNw, .ref rM_kept, .ref rM_isKept, .ref rM_refused, .int M_at, .int M_fault, .ref rM_values, .int M_valueMany, .ref rM_signs, .int M_signMany, .long M_tells, .int M_way, .int M_wish, .long M_moreTick, .long M_moreForce, .int M_runTurns, .long M_runFirst, .long M_runLast, .ref rM_was, .long M_peak, .long M_beside, .int M_besideAt])), (aNw, .inl (cNw, 139, .inr (.inl fNw)))] (fun (r : Int64) (_ : Unit) => r = fX8_of p1 fNw) (fun (_ : Unit) => [(aM, .inr (8, [.ref aNw, .ref rM_kept, .ref rM_isKept, .ref rM_refused, .int M_at, .int M_fault, .ref rM_values, .int M_valueMany, .ref rM_signs, .int M_signMany, .long M_tells, .int M_way, .int M_wish, .long M_moreTick, .long M_moreForce, .int M_runTurns, .long M_runFirst, .long M_runLast, .ref rM_was, .long M_peak, .long M_beside, .int M_besideAt])), (aNw, .inl (cNw, 139, .inr (.inl fNw)))]) := by
  intro sz
  refine Met.ofW (cc := cX8_of) (maxL := 2) (ret := (some .long)) (by decide) rfl ?_
  intro p e s m args below meth c s₁ B hml hv
  obtain ⟨rfl, hv⟩ := hv
  obtain ⟨rfl, hK, hq, hA⟩ := kk_begin hv
  have hx := B.exec
  have hb := B.bytes
  have hr := B.returns
  have hts := atoms_spec (ws := (Cond.code yX8_of cX8_of 2 (some .long) :: wsL_law)) B.pre
  have hown : s.vm.findClass RX8 = some m.cls := findClass_of_methodNamed B.named
  have hlocks := B.notSynchronized
  have hsb : ∀ w ∈ wsL_law, w ∈ (Cond.code yX8_of cX8_of 2 (some .long) :: wsL_law) := fun _ h => List.mem_cons_of_mem _ h
  generalize va_A [(aM, .inr (8, [.ref aNw, .ref rM_kept, .ref rM_isKept, .ref rM_refused, .int M_at, .int M_fault, .ref rM_values, .int M_valueMany, .ref rM_signs, .int M_signMany, .long M_tells, .int M_way, .int M_wish, .long M_moreTick, .long M_moreForce, .int M_runTurns, .long M_runFirst, .long M_runLast, .ref rM_was, .long M_peak, .long M_beside, .int M_besideAt])), (aNw, .inl (cNw, 139, .inr (.inl fNw)))] s.heap.size = A at hq hA ⊢
  have iX8 : ∀ w ∈ u_ws RX8 TX8 22, w ∈ (Cond.code yX8_of cX8_of 2 (some .long) :: wsL_law) := fun w h => hsb w (bin_X8 w h)
  have lk0_ := hts _ (hsb _ wd_117)
  have hl := lv_entry ([.ref aM, .int p1]) (n := 2) (Nat.le_of_ble_eq_true rfl)
  rw [lg_entry_eq]
  generalize (lg_sl ([.ref aM, .int p1]) ++ List.replicate (2 - (lg_sl ([.ref aM, .int p1])).length) Slot.unset).toArray = ls at hl ⊢
  have hl : lv_has ls 2 [(0, .ref aM), (1, .int p1)] := hl
  refine lv_aload_n hx hb dX8_of_0 rfl (lv_at hl 0 rfl) ?_
  refine kk_get (ci := 8) (v := .ref aNw) (C := RX8) (T := TX8) (N := 22) hx hb hts iX8 hown hK hq 0 rfl rfl 0 (by decide) lk0_ rfl dX8_of_1 ?_
  refine lv_bipush (v := 53) hx hb dX8_of_4 (by decide) ?_
  refine lv_iload_n hx hb dX8_of_6 rfl (lv_at hl 1 rfl) ?_
  refine lv_iadd hx hb dX8_of_7 ?_
  refine kk_lald hx hb hK hq 1 0 rfl rfl (53 + p1.toNatClampNeg) (ix_add (x := p1) 53 139 h0 (by omega) (by decide)).1 (ix_add (x := p1) 53 139 h0 (by omega) (by decide)).2 (by decide) dX8_of_8 ?_
  have hf : (fNw (53 + p1.toNatClampNeg) : Int64) = fX8_of p1 fNw := by
    exact rfl
  exact kk_el hx hb hr hlocks hK hq [0, 1] () rfl (by decide) dX8_of_9 hf
def fX8_lawLong (fNw : Nat → Int64) : Int32 :=
  (fNw 61).toInt32

set_option maxHeartbeats 4000000 in
set_option maxRecDepth 100000 in
theorem c_X8_lawLong (l : Launch) (G : va_G) (aM aNw rM_kept rM_isKept rM_refused rM_values rM_signs rM_was : Nat) (cNw : ClassId) (M_at : Int32) (M_fault : Int32) (M_valueMany : Int32) (M_signMany : Int32) (M_tells : Int64) (M_way : Int32) (M_wish : Int32) (M_moreTick : Int64) (M_moreForce : Int64) (M_runTurns : Int32) (M_runFirst : Int64) (M_runLast : Int64) (M_peak : Int64) (M_beside : Int64) (M_besideAt : Int32) (fNw : Nat → Int64) : kCi l yX8_lawLong (Cond.code yX8_lawLong cX8_lawLong 1 (some .int) :: wsL_law) ({ frames := 0, cells := 0, slots := 0, locals := 0 }) G [(cNw, .long)] [.ref aM] [(aM, .inr (8, [.ref aNw, .ref rM_kept, .ref rM_isKept, .ref rM_refused, .int M_at, .int M_fault, .ref rM_values, .int M_valueMany, .ref rM_signs, .int M_signMany, .long M_tells, .int M_way, .int M_wish, .long M_moreTick, .long M_moreForce, .int M_runTurns, .long M_runFirst, .long M_runLast, .ref rM_was, .long M_peak, .long M_beside, .int M_besideAt])), (aNw, .inl (cNw, 139, .inr (.inl fNw)))] (fun (r : Int32) (_ : Unit) => r = fX8_lawLong fNw) (fun (_ : Unit) => [(aM, .inr (8, [.ref aNw, .ref rM_kept, .ref rM_isKept, .ref rM_refused, .int M_at, .int M_fault, .ref rM_values, .int M_valueMany, .ref rM_signs, .int M_signMany, .long M_tells, .int M_way, .int M_wish, .long M_moreTick, .long M_moreForce, .int M_runTurns, .long M_runFirst, .long M_runLast, .ref rM_was, .long M_peak, .long M_beside, .int M_besideAt])), (aNw, .inl (cNw, 139, .inr (.inl fNw)))]) := by
  intro sz
  refine Met.ofW (cc := cX8_lawLong) (maxL := 1) (ret := (some .int)) (by decide) rfl ?_
  intro p e s m args below meth c s₁ B hml hv
  obtain ⟨rfl, hv⟩ := hv
  obtain ⟨rfl, hK, hq, hA⟩ := kk_begin hv
  have hx := B.exec
  have hb := B.bytes
  have hr := B.returns
  have hts := atoms_spec (ws := (Cond.code yX8_lawLong cX8_lawLong 1 (some .int) :: wsL_law)) B.pre
  have hown : s.vm.findClass RX8 = some m.cls := findClass_of_methodNamed B.named
  have hlocks := B.notSynchronized
  have hsb : ∀ w ∈ wsL_law, w ∈ (Cond.code yX8_lawLong cX8_lawLong 1 (some .int) :: wsL_law) := fun _ h => List.mem_cons_of_mem _ h
  generalize va_A [(aM, .inr (8, [.ref aNw, .ref rM_kept, .ref rM_isKept, .ref rM_refused, .int M_at, .int M_fault, .ref rM_values, .int M_valueMany, .ref rM_signs, .int M_signMany, .long M_tells, .int M_way, .int M_wish, .long M_moreTick, .long M_moreForce, .int M_runTurns, .long M_runFirst, .long M_runLast, .ref rM_was, .long M_peak, .long M_beside, .int M_besideAt])), (aNw, .inl (cNw, 139, .inr (.inl fNw)))] s.heap.size = A at hq hA ⊢
  have iX8 : ∀ w ∈ u_ws RX8 TX8 22, w ∈ (Cond.code yX8_lawLong cX8_lawLong 1 (some .int) :: wsL_law) := fun w h => hsb w (bin_X8 w h)
  have lk0_ := hts _ (hsb _ wd_117)
  have hl := lv_entry ([.ref aM]) (n := 1) (Nat.le_of_ble_eq_true rfl)
  rw [lg_entry_eq]
  generalize (lg_sl ([.ref aM]) ++ List.replicate (1 - (lg_sl ([.ref aM])).length) Slot.unset).toArray = ls at hl ⊢
  have hl : lv_has ls 1 [(0, .ref aM)] := hl
  refine lv_aload_n hx hb dX8_lawLong_0 rfl (lv_at hl 0 rfl) ?_
  refine kk_get (ci := 8) (v := .ref aNw) (C := RX8) (T := TX8) (N := 22) hx hb hts iX8 hown hK hq 0 rfl rfl 0 (by decide) lk0_ rfl dX8_lawLong_1 ?_
  refine lv_bipush (v := 61) hx hb dX8_lawLong_4 (by decide) ?_
  refine kk_lald hx hb hK hq 1 0 rfl rfl 61 rfl (by decide) (by decide) dX8_lawLong_6 ?_
  refine lv_l2i hx hb dX8_lawLong_7 rfl ?_
  have hf : ((fNw 61).toInt32 : Int32) = fX8_lawLong fNw := by
    exact rfl
  exact kk_ei hx hb hr hlocks hK hq [0, 1] () rfl (by decide) dX8_lawLong_8 hf
def fX8_pushMany (fNw : Nat → Int64) : Int32 :=
  (fNw 122).toInt32

set_option maxHeartbeats 4000000 in
set_option maxRecDepth 100000 in
theorem c_X8_pushMany (l : Launch) (G : va_G) (aM aNw rM_kept rM_isKept rM_refused rM_values rM_signs rM_was : Nat) (cNw : ClassId) (M_at : Int32) (M_fault : Int32) (M_valueMany : Int32) (M_signMany : Int32) (M_tells : Int64) (M_way : Int32) (M_wish : Int32) (M_moreTick : Int64) (M_moreForce : Int64) (M_runTurns : Int32) (M_runFirst : Int64) (M_runLast : Int64) (M_peak : Int64) (M_beside : Int64) (M_besideAt : Int32) (fNw : Nat → Int64) : kCi l yX8_pushMany (Cond.code yX8_pushMany cX8_pushMany 1 (some .int) :: wsL_law) ({ frames := 0, cells := 0, slots := 0, locals := 0 }) G [(cNw, .long)] [.ref aM] [(aM, .inr (8, [.ref aNw, .ref rM_kept, .ref rM_isKept, .ref rM_refused, .int M_at, .int M_fault, .ref rM_values, .int M_valueMany, .ref rM_signs, .int M_signMany, .long M_tells, .int M_way, .int M_wish, .long M_moreTick, .long M_moreForce, .int M_runTurns, .long M_runFirst, .long M_runLast, .ref rM_was, .long M_peak, .long M_beside, .int M_besideAt])), (aNw, .inl (cNw, 139, .inr (.inl fNw)))] (fun (r : Int32) (_ : Unit) => r = fX8_pushMany fNw) (fun (_ : Unit) => [(aM, .inr (8, [.ref aNw, .ref rM_kept, .ref rM_isKept, .ref rM_refused, .int M_at, .int M_fault, .ref rM_values, .int M_valueMany, .ref rM_signs, .int M_signMany, .long M_tells, .int M_way, .int M_wish, .long M_moreTick, .long M_moreForce, .int M_runTurns, .long M_runFirst, .long M_runLast, .ref rM_was, .long M_peak, .long M_beside, .int M_besideAt])), (aNw, .inl (cNw, 139, .inr (.inl fNw)))]) := by
  intro sz
  refine Met.ofW (cc := cX8_pushMany) (maxL := 1) (ret := (some .int)) (by decide) rfl ?_
  intro p e s m args below meth c s₁ B hml hv
  obtain ⟨rfl, hv⟩ := hv
  obtain ⟨rfl, hK, hq, hA⟩ := kk_begin hv
  have hx := B.exec
  have hb := B.bytes
  have hr := B.returns
  have hts := atoms_spec (ws := (Cond.code yX8_pushMany cX8_pushMany 1 (some .int) :: wsL_law)) B.pre
  have hown : s.vm.findClass RX8 = some m.cls := findClass_of_methodNamed B.named
  have hlocks := B.notSynchronized
  have hsb : ∀ w ∈ wsL_law, w ∈ (Cond.code yX8_pushMany cX8_pushMany 1 (some .int) :: wsL_law) := fun _ h => List.mem_cons_of_mem _ h
  generalize va_A [(aM, .inr (8, [.ref aNw, .ref rM_kept, .ref rM_isKept, .ref rM_refused, .int M_at, .int M_fault, .ref rM_values, .int M_valueMany, .ref rM_signs, .int M_signMany, .long M_tells, .int M_way, .int M_wish, .long M_moreTick, .long M_moreForce, .int M_runTurns, .long M_runFirst, .long M_runLast, .ref rM_was, .long M_peak, .long M_beside, .int M_besideAt])), (aNw, .inl (cNw, 139, .inr (.inl fNw)))] s.heap.size = A at hq hA ⊢
  have iX8 : ∀ w ∈ u_ws RX8 TX8 22, w ∈ (Cond.code yX8_pushMany cX8_pushMany 1 (some .int) :: wsL_law) := fun w h => hsb w (bin_X8 w h)
  have lk0_ := hts _ (hsb _ wd_117)
  have hl := lv_entry ([.ref aM]) (n := 1) (Nat.le_of_ble_eq_true rfl)
  rw [lg_entry_eq]
  generalize (lg_sl ([.ref aM]) ++ List.replicate (1 - (lg_sl ([.ref aM])).length) Slot.unset).toArray = ls at hl ⊢
  have hl : lv_has ls 1 [(0, .ref aM)] := hl
  refine lv_aload_n hx hb dX8_pushMany_0 rfl (lv_at hl 0 rfl) ?_
  refine kk_get (ci := 8) (v := .ref aNw) (C := RX8) (T := TX8) (N := 22) hx hb hts iX8 hown hK hq 0 rfl rfl 0 (by decide) lk0_ rfl dX8_pushMany_1 ?_
  refine lv_bipush (v := 122) hx hb dX8_pushMany_4 (by decide) ?_
  refine kk_lald hx hb hK hq 1 0 rfl rfl 122 rfl (by decide) (by decide) dX8_pushMany_6 ?_
  refine lv_l2i hx hb dX8_pushMany_7 rfl ?_
  have hf : ((fNw 122).toInt32 : Int32) = fX8_pushMany fNw := by
    exact rfl
  exact kk_ei hx hb hr hlocks hK hq [0, 1] () rfl (by decide) dX8_pushMany_8 hf
def fX8_charAt (p1 : Int32) (fNw : Nat → Int64) : Int32 :=
  (fNw (62 + p1.toNatClampNeg)).toInt32

set_option maxHeartbeats 4000000 in
set_option maxRecDepth 100000 in
theorem c_X8_charAt (l : Launch) (G : va_G) (aM aNw rM_kept rM_isKept rM_refused rM_values rM_signs rM_was : Nat) (cNw : ClassId) (p1 : Int32) (M_at : Int32) (M_fault : Int32) (M_valueMany : Int32) (M_signMany : Int32) (M_tells : Int64) (M_way : Int32) (M_wish : Int32) (M_moreTick : Int64) (M_moreForce : Int64) (M_runTurns : Int32) (M_runFirst : Int64) (M_runLast : Int64) (M_peak : Int64) (M_beside : Int64) (M_besideAt : Int32) (fNw : Nat → Int64) (h0 : 0 ≤ p1.toInt) (h60 : p1.toInt < 60) : kCi l yX8_charAt (Cond.code yX8_charAt cX8_charAt 2 (some .int) :: wsL_law) ({ frames := 0, cells := 0, slots := 0, locals := 0 }) G [(cNw, .long)] [.ref aM, .int p1] [(aM, .inr (8, [.ref aNw, .ref rM_kept, .ref rM_isKept, .ref rM_refused, .int M_at, .int M_fault, .ref rM_values, .int M_valueMany, .ref rM_signs, .int M_signMany, .long M_tells, .int M_way, .int M_wish, .long M_moreTick, .long M_moreForce, .int M_runTurns, .long M_runFirst, .long M_runLast, .ref rM_was, .long M_peak, .long M_beside, .int M_besideAt])), (aNw, .inl (cNw, 139, .inr (.inl fNw)))] (fun (r : Int32) (_ : Unit) => r = fX8_charAt p1 fNw) (fun (_ : Unit) => [(aM, .inr (8, [.ref aNw, .ref rM_kept, .ref rM_isKept, .ref rM_refused, .int M_at, .int M_fault, .ref rM_values, .int M_valueMany, .ref rM_signs, .int M_signMany, .long M_tells, .int M_way, .int M_wish, .long M_moreTick, .long M_moreForce, .int M_runTurns, .long M_runFirst, .long M_runLast, .ref rM_was, .long M_peak, .long M_beside, .int M_besideAt])), (aNw, .inl (cNw, 139, .inr (.inl fNw)))]) := by
  intro sz
  refine Met.ofW (cc := cX8_charAt) (maxL := 2) (ret := (some .int)) (by decide) rfl ?_
  intro p e s m args below meth c s₁ B hml hv
  obtain ⟨rfl, hv⟩ := hv
  obtain ⟨rfl, hK, hq, hA⟩ := kk_begin hv
  have hx := B.exec
  have hb := B.bytes
  have hr := B.returns
  have hts := atoms_spec (ws := (Cond.code yX8_charAt cX8_charAt 2 (some .int) :: wsL_law)) B.pre
  have hown : s.vm.findClass RX8 = some m.cls := findClass_of_methodNamed B.named
  have hlocks := B.notSynchronized
  have hsb : ∀ w ∈ wsL_law, w ∈ (Cond.code yX8_charAt cX8_charAt 2 (some .int) :: wsL_law) := fun _ h => List.mem_cons_of_mem _ h
  generalize va_A [(aM, .inr (8, [.ref aNw, .ref rM_kept, .ref rM_isKept, .ref rM_refused, .int M_at, .int M_fault, .ref rM_values, .int M_valueMany, .ref rM_signs, .int M_signMany, .long M_tells, .int M_way, .int M_wish, .long M_moreTick, .long M_moreForce, .int M_runTurns, .long M_runFirst, .long M_runLast, .ref rM_was, .long M_peak, .long M_beside, .int M_besideAt])), (aNw, .inl (cNw, 139, .inr (.inl fNw)))] s.heap.size = A at hq hA ⊢
  have iX8 : ∀ w ∈ u_ws RX8 TX8 22, w ∈ (Cond.code yX8_charAt cX8_charAt 2 (some .int) :: wsL_law) := fun w h => hsb w (bin_X8 w h)
  have lk0_ := hts _ (hsb _ wd_117)
  have hl := lv_entry ([.ref aM, .int p1]) (n := 2) (Nat.le_of_ble_eq_true rfl)
  rw [lg_entry_eq]
  generalize (lg_sl ([.ref aM, .int p1]) ++ List.replicate (2 - (lg_sl ([.ref aM, .int p1])).length) Slot.unset).toArray = ls at hl ⊢
  have hl : lv_has ls 2 [(0, .ref aM), (1, .int p1)] := hl
  refine lv_aload_n hx hb dX8_charAt_0 rfl (lv_at hl 0 rfl) ?_
  refine kk_get (ci := 8) (v := .ref aNw) (C := RX8) (T := TX8) (N := 22) hx hb hts iX8 hown hK hq 0 rfl rfl 0 (by decide) lk0_ rfl dX8_charAt_1 ?_
  refine lv_bipush (v := 62) hx hb dX8_charAt_4 (by decide) ?_
  refine lv_iload_n hx hb dX8_charAt_6 rfl (lv_at hl 1 rfl) ?_
  refine lv_iadd hx hb dX8_charAt_7 ?_
  refine kk_lald hx hb hK hq 1 0 rfl rfl (62 + p1.toNatClampNeg) (ix_add (x := p1) 62 139 h0 (by omega) (by decide)).1 (ix_add (x := p1) 62 139 h0 (by omega) (by decide)).2 (by decide) dX8_charAt_8 ?_
  refine lv_l2i hx hb dX8_charAt_9 rfl ?_
  have hf : ((fNw (62 + p1.toNatClampNeg)).toInt32 : Int32) = fX8_charAt p1 fNw := by
    exact rfl
  exact kk_ei hx hb hr hlocks hK hq [0, 1] () rfl (by decide) dX8_charAt_10 hf
theorem in_le {x a b : Int64} (h : ¬ fX8_in x a b = 0) : a.toInt ≤ x.toInt ∧ x.toInt ≤ b.toInt := by
  unfold fX8_in at h
  dsimp only at h
  by_cases h1 : x < a
  · rw [if_pos h1] at h; exact absurd rfl h
  · rw [if_neg h1] at h
    by_cases h2 : b < x
    · rw [if_pos h2] at h; exact absurd rfl h
    · rw [jl_lt] at h1 h2
      omega
theorem in_i {x : Int32} {a b : Int64} (h : ¬ fX8_in x.toInt64 a b = 0) : a.toInt ≤ x.toInt ∧ x.toInt ≤ b.toInt := by
  have := in_le h
  rwa [Int32.toInt_toInt64] at this
theorem fits_le {x v : Int32} (h : ¬ fX8_fitsNumber x v = 0) : 0 ≤ x.toInt ∧ x.toInt < 8 := by
  by_cases h0 : x = 0
  · subst h0; decide
  by_cases h1 : x = 1
  · subst h1; decide
  by_cases h2 : x = 2
  · subst h2; decide
  by_cases h3 : x = 3
  · subst h3; decide
  by_cases h4 : x = 4
  · subst h4; decide
  by_cases h5 : x = 5
  · subst h5; decide
  by_cases h6 : x = 6
  · subst h6; decide
  by_cases h7 : x = 7
  · subst h7; decide
  · exact absurd (by unfold fX8_fitsNumber; rw [if_neg h0, if_neg h1, if_neg h2, if_neg h3, if_neg h4, if_neg h5, if_neg h6, if_neg h7]) h
theorem hd_X8_bad : yX8_bad.cls = RX8 ∧ yX8_bad.cls ≠ "java/lang/invoke/MethodHandle" ∧ yX8_bad.cls ≠ "java/lang/invoke/VarHandle" ∧ (parseMethodDescriptor yX8_bad.desc).map (fun d => d.parameters.length) = some 1 := by decide +kernel
theorem hd_X8_fitsNumber : yX8_fitsNumber.cls ≠ "java/lang/invoke/MethodHandle" ∧ yX8_fitsNumber.cls ≠ "java/lang/invoke/VarHandle" ∧ (parseMethodDescriptor yX8_fitsNumber.desc).map (fun d => d.parameters.length) = some 2 := by decide +kernel
theorem hd_X8_of : yX8_of.cls = RX8 ∧ yX8_of.cls ≠ "java/lang/invoke/MethodHandle" ∧ yX8_of.cls ≠ "java/lang/invoke/VarHandle" ∧ (parseMethodDescriptor yX8_of.desc).map (fun d => d.parameters.length) = some 1 := by decide +kernel
def fX8_put (p1 : Int32) (p2 : Int32) (fNw : Nat → Int64) (fRf : Nat → Int32) : Int32 × (Nat → Int64) × (Nat → Int32) :=
  let r_2 : Int32 := fX8_fitsNumber p1 p2
  if r_2 = 0 then (
    let r_10 : Int32 := (fX8_bad (-100) fRf).1
    let u_9 : Nat → Int32 := (fX8_bad (-100) fRf).2
    (r_10, fNw, u_9))
  else (
    let r_6 : Int64 := fX8_of p1 fNw
    let fNw_8 : Nat → Int64 := vp_updL fNw (53 + p1.toNatClampNeg) p2.toInt64
    (r_6.toInt32, fNw_8, fRf))

set_option maxHeartbeats 4000000 in
set_option maxRecDepth 100000 in
theorem c_X8_put (l : Launch) (G : va_G) (aM aNw aRf rM_kept rM_isKept rM_values rM_signs rM_was : Nat) (cNw cRf : ClassId) (p1 : Int32) (p2 : Int32) (M_at : Int32) (M_fault : Int32) (M_valueMany : Int32) (M_signMany : Int32) (M_tells : Int64) (M_way : Int32) (M_wish : Int32) (M_moreTick : Int64) (M_moreForce : Int64) (M_runTurns : Int32) (M_runFirst : Int64) (M_runLast : Int64) (M_peak : Int64) (M_beside : Int64) (M_besideAt : Int32) (fNw : Nat → Int64) (fRf : Nat → Int32) : kCi l yX8_put (Cond.code yX8_put cX8_put 4 (some .int) :: wsL_law) ({ frames := 2, cells := 0, slots := 0, locals := 46 }) G [(cNw, .long), (cRf, .int)] [.ref aM, .int p1, .int p2] [(aM, .inr (8, [.ref aNw, .ref rM_kept, .ref rM_isKept, .ref aRf, .int M_at, .int M_fault, .ref rM_values, .int M_valueMany, .ref rM_signs, .int M_signMany, .long M_tells, .int M_way, .int M_wish, .long M_moreTick, .long M_moreForce, .int M_runTurns, .long M_runFirst, .long M_runLast, .ref rM_was, .long M_peak, .long M_beside, .int M_besideAt])), (aNw, .inl (cNw, 139, .inr (.inl fNw))), (aRf, .inl (cRf, 3, .inl fRf))] (fun (r : Int32) (u : (Nat → Int64) × (Nat → Int32)) => r = (fX8_put p1 p2 fNw fRf).1 ∧ u = (fX8_put p1 p2 fNw fRf).2) (fun (u : (Nat → Int64) × (Nat → Int32)) => [(aM, .inr (8, [.ref aNw, .ref rM_kept, .ref rM_isKept, .ref aRf, .int M_at, .int M_fault, .ref rM_values, .int M_valueMany, .ref rM_signs, .int M_signMany, .long M_tells, .int M_way, .int M_wish, .long M_moreTick, .long M_moreForce, .int M_runTurns, .long M_runFirst, .long M_runLast, .ref rM_was, .long M_peak, .long M_beside, .int M_besideAt])), (aNw, .inl (cNw, 139, .inr (.inl u.1))), (aRf, .inl (cRf, 3, .inl u.2))]) := by
  intro sz
  refine Met.ofW (cc := cX8_put) (maxL := 4) (ret := (some .int)) (by decide) rfl ?_
  intro p e s m args below meth c s₁ B hml hv
  obtain ⟨rfl, hv⟩ := hv
  obtain ⟨rfl, hK, hq, hA⟩ := kk_begin hv
  have hx := B.exec
  have hb := B.bytes
  have hr := B.returns
  have hts := atoms_spec (ws := (Cond.code yX8_put cX8_put 4 (some .int) :: wsL_law)) B.pre
  have hown : s.vm.findClass RX8 = some m.cls := findClass_of_methodNamed B.named
  have hlocks := B.notSynchronized
  have hsb : ∀ w ∈ wsL_law, w ∈ (Cond.code yX8_put cX8_put 4 (some .int) :: wsL_law) := fun _ h => List.mem_cons_of_mem _ h
  generalize va_A [(aM, .inr (8, [.ref aNw, .ref rM_kept, .ref rM_isKept, .ref aRf, .int M_at, .int M_fault, .ref rM_values, .int M_valueMany, .ref rM_signs, .int M_signMany, .long M_tells, .int M_way, .int M_wish, .long M_moreTick, .long M_moreForce, .int M_runTurns, .long M_runFirst, .long M_runLast, .ref rM_was, .long M_peak, .long M_beside, .int M_besideAt])), (aNw, .inl (cNw, 139, .inr (.inl fNw))), (aRf, .inl (cRf, 3, .inl fRf))] s.heap.size = A at hq hA ⊢
  have iX8 : ∀ w ∈ u_ws RX8 TX8 22, w ∈ (Cond.code yX8_put cX8_put 4 (some .int) :: wsL_law) := fun w h => hsb w (bin_X8 w h)
  have lk0_ := hts _ (hsb _ wd_117)
  have hl := lv_entry ([.ref aM, .int p1, .int p2]) (n := 4) (Nat.le_of_ble_eq_true rfl)
  rw [lg_entry_eq]
  generalize (lg_sl ([.ref aM, .int p1, .int p2]) ++ List.replicate (4 - (lg_sl ([.ref aM, .int p1, .int p2])).length) Slot.unset).toArray = ls at hl ⊢
  have hl : lv_has ls 4 [(0, .ref aM), (1, .int p1), (2, .int p2)] := hl
  refine lv_iload_n hx hb dX8_put_0 rfl (lv_at hl 1 rfl) ?_
  refine lv_iload_n hx hb dX8_put_1 rfl (lv_at hl 2 rfl) ?_
  refine kk_Si (As := [.int p1, .int p2]) (rest := []) (wr := [(aM, .inr (8, [.ref aNw, .ref rM_kept, .ref rM_isKept, .ref aRf, .int M_at, .int M_fault, .ref rM_values, .int M_valueMany, .ref rM_signs, .int M_signMany, .long M_tells, .int M_way, .int M_wish, .long M_moreTick, .long M_moreForce, .int M_runTurns, .long M_runFirst, .long M_runLast, .ref rM_was, .long M_peak, .long M_beside, .int M_besideAt])), (aNw, .inl (cNw, 139, .inr (.inl fNw))), (aRf, .inl (cRf, 3, .inl fRf))]) ⟨hx, hb, hml, hown, hts⟩ (c_X8_fitsNumber l G p1 p2) (kk_cwS 2 hts hsb wd_147 wd_148 wd_5 wd_149 rfl rfl hd_X8_fitsNumber ⟨Nat.le_of_ble_eq_true rfl, Nat.le_of_ble_eq_true rfl⟩) hA hK hq [] [0, 1, 2] [] rfl rfl rfl (by decide) (by decide) (by decide) rfl hl.1 rfl (Nat.le_of_ble_eq_true rfl) dX8_put_2 ⟨Nat.zero_le _, Nat.zero_le _⟩ (fun r_2 u_1 H locs h_3 hq => ?_)
  obtain ⟨er_2, zr_2⟩ := h_3
  have hq : kAt G A s [(aM, .inr (8, [.ref aNw, .ref rM_kept, .ref rM_isKept, .ref aRf, .int M_at, .int M_fault, .ref rM_values, .int M_valueMany, .ref rM_signs, .int M_signMany, .long M_tells, .int M_way, .int M_wish, .long M_moreTick, .long M_moreForce, .int M_runTurns, .long M_runFirst, .long M_runLast, .ref rM_was, .long M_peak, .long M_beside, .int M_besideAt])), (aNw, .inl (cNw, 139, .inr (.inl fNw))), (aRf, .inl (cRf, 3, .inl fRf))] H locs := hq
  have hrw := er_2
  refine lv_if_ne (tgt := 15) hx hb dX8_put_5 (by decide) (fun c_4 => ?_) (fun c_4 => ?_)
  · skip
    have hw := fits_le (hrw ▸ c_4)
    have h0 := hw.1
    have h8 := hw.2
    refine lv_aload_n hx hb dX8_put_15 rfl (lv_at hl 0 rfl) ?_
    refine lv_iload_n hx hb dX8_put_16 rfl (lv_at hl 1 rfl) ?_
    refine kk_Vl (As := [.int p1]) (rest := []) (wr := [(aRf, .inl (cRf, 3, .inl fRf))]) ⟨hx, hb, hml, hown, hts⟩ (c_X8_of l G aM aNw rM_kept rM_isKept aRf rM_values rM_signs rM_was cNw p1 M_at M_fault M_valueMany M_signMany M_tells M_way M_wish M_moreTick M_moreForce M_runTurns M_runFirst M_runLast M_peak M_beside M_besideAt fNw (by assumption) (by assumption)) (kk_cwV 1 hts hsb wd_163 wd_164 wd_165 wd_5 wd_166 rfl rfl hd_X8_of ⟨Nat.le_of_ble_eq_true rfl, Nat.le_of_ble_eq_true rfl⟩) hA hK hq [0, 1] [2] [0] rfl rfl rfl (by decide) (by decide) (by decide) 0 8 rfl rfl rfl rfl hl.1 rfl (Nat.le_of_ble_eq_true rfl) dX8_put_17 ⟨Nat.zero_le _, Nat.zero_le _⟩ (fun r_6 u_5 H locs h_7 hq => ?_)
    have er_6 := h_7
    have hq : kAt G A s [(aRf, .inl (cRf, 3, .inl fRf)), (aM, .inr (8, [.ref aNw, .ref rM_kept, .ref rM_isKept, .ref aRf, .int M_at, .int M_fault, .ref rM_values, .int M_valueMany, .ref rM_signs, .int M_signMany, .long M_tells, .int M_way, .int M_wish, .long M_moreTick, .long M_moreForce, .int M_runTurns, .long M_runFirst, .long M_runLast, .ref rM_was, .long M_peak, .long M_beside, .int M_besideAt])), (aNw, .inl (cNw, 139, .inr (.inl fNw)))] H locs := hq
    refine lv_l2i hx hb dX8_put_20 rfl ?_
    refine lv_istore_n (lv' := [(3, .int r_6.toInt32), (0, .ref aM), (1, .int p1), (2, .int p2)]) hx hb dX8_put_21 rfl hl (by decide) rfl (fun ls hl => ?_)
    refine lv_aload_n hx hb dX8_put_22 rfl (lv_at hl 1 rfl) ?_
    refine kk_get (ci := 8) (v := .ref aNw) (C := RX8) (T := TX8) (N := 22) hx hb hts iX8 hown hK hq 1 rfl rfl 0 (by decide) lk0_ rfl dX8_put_23 ?_
    refine lv_bipush (v := 53) hx hb dX8_put_26 (by decide) ?_
    refine lv_iload_n hx hb dX8_put_28 rfl (lv_at hl 2 rfl) ?_
    refine lv_iadd hx hb dX8_put_29 ?_
    refine lv_iload_n hx hb dX8_put_30 rfl (lv_at hl 3 rfl) ?_
    refine lv_i2l hx hb dX8_put_31 rfl ?_
    refine kk_last (ws' := [(aRf, .inl (cRf, 3, .inl fRf)), (aM, .inr (8, [.ref aNw, .ref rM_kept, .ref rM_isKept, .ref aRf, .int M_at, .int M_fault, .ref rM_values, .int M_valueMany, .ref rM_signs, .int M_signMany, .long M_tells, .int M_way, .int M_wish, .long M_moreTick, .long M_moreForce, .int M_runTurns, .long M_runFirst, .long M_runLast, .ref rM_was, .long M_peak, .long M_beside, .int M_besideAt])), (aNw, .inl (cNw, 139, .inr (.inl (vp_updL fNw (53 + p1.toNatClampNeg) p2.toInt64))))]) hx hb hK hq 2 0 rfl rfl (53 + p1.toNatClampNeg) (ix_add (x := p1) 53 139 h0 (by omega) (by decide)).1 (ix_add (x := p1) 53 139 h0 (by omega) (by decide)).2 (by decide) dX8_put_32 rfl (fun H locs hq => ?_)
    obtain ⟨fNw_8, efNw_8⟩ : ∃ z : Nat → Int64, z = vp_updL fNw (53 + p1.toNatClampNeg) p2.toInt64 := ⟨_, rfl⟩
    rw [← efNw_8] at hq
    refine lv_iload_n hx hb dX8_put_33 rfl (lv_at hl 0 rfl) ?_
    have hf : ((r_6.toInt32, fNw_8, fRf) : Int32 × (Nat → Int64) × (Nat → Int32)) = fX8_put p1 p2 fNw fRf := by
      exact ((congrArg (fun (r_2 : Int32) => ((if r_2 = 0 then (
    let r_10 : Int32 := (fX8_bad (-100) fRf).1
    let u_9 : Nat → Int32 := (fX8_bad (-100) fRf).2
    (r_10, fNw, u_9))
  else (
    let r_6 : Int64 := fX8_of p1 fNw
    let fNw_8 : Nat → Int64 := vp_updL fNw (53 + p1.toNatClampNeg) p2.toInt64
    (r_6.toInt32, fNw_8, fRf))) : Int32 × (Nat → Int64) × (Nat → Int32))) er_2.symm).trans ((if_neg c_4).trans ((congrArg (fun (r_6 : Int64) => ((let fNw_8 : Nat → Int64 := vp_updL fNw (53 + p1.toNatClampNeg) p2.toInt64
  (r_6.toInt32, fNw_8, fRf)) : Int32 × (Nat → Int64) × (Nat → Int32))) er_6.symm).trans ((congrArg (fun (fNw_8 : Nat → Int64) => (((r_6.toInt32, fNw_8, fRf)) : Int32 × (Nat → Int64) × (Nat → Int32))) efNw_8.symm))))).symm
    have hf1 := congrArg Prod.fst hf
    have hf2 := congrArg Prod.snd hf
    exact kk_ei hx hb hr hlocks hK hq [1, 2, 0] (fNw_8, fRf) rfl (by decide) dX8_put_34 ⟨hf1, hf2⟩
  · skip
    refine lv_aload_n hx hb dX8_put_8 rfl (lv_at hl 0 rfl) ?_
    refine lv_bipush (v := -100) hx hb dX8_put_9 (by decide) ?_
    refine kk_Vi (As := [.int (-100)]) (rest := []) (wr := [(aNw, .inl (cNw, 139, .inr (.inl fNw)))]) ⟨hx, hb, hml, hown, hts⟩ (c_X8_bad l G aM aRf aNw rM_kept rM_isKept rM_values rM_signs rM_was cRf (-100) M_at M_fault M_valueMany M_signMany M_tells M_way M_wish M_moreTick M_moreForce M_runTurns M_runFirst M_runLast M_peak M_beside M_besideAt fRf) (kk_cwV 1 hts hsb wd_159 wd_160 wd_161 wd_5 wd_162 rfl rfl hd_X8_bad ⟨Nat.le_of_ble_eq_true rfl, Nat.le_of_ble_eq_true rfl⟩) hA hK hq [0, 2] [1] [1] rfl rfl rfl (by decide) (by decide) (by decide) 0 8 rfl rfl rfl rfl hl.1 rfl (Nat.le_of_ble_eq_true rfl) dX8_put_11 ⟨Nat.zero_le _, Nat.zero_le _⟩ (fun r_10 u_9 H locs h_11 hq => ?_)
    obtain ⟨er_10, eu_9⟩ := h_11
    have hq : kAt G A s [(aNw, .inl (cNw, 139, .inr (.inl fNw))), (aM, .inr (8, [.ref aNw, .ref rM_kept, .ref rM_isKept, .ref aRf, .int M_at, .int M_fault, .ref rM_values, .int M_valueMany, .ref rM_signs, .int M_signMany, .long M_tells, .int M_way, .int M_wish, .long M_moreTick, .long M_moreForce, .int M_runTurns, .long M_runFirst, .long M_runLast, .ref rM_was, .long M_peak, .long M_beside, .int M_besideAt])), (aRf, .inl (cRf, 3, .inl u_9))] H locs := hq
    have hf : ((r_10, fNw, u_9) : Int32 × (Nat → Int64) × (Nat → Int32)) = fX8_put p1 p2 fNw fRf := by
      exact ((congrArg (fun (r_2 : Int32) => ((if r_2 = 0 then (
    let r_10 : Int32 := (fX8_bad (-100) fRf).1
    let u_9 : Nat → Int32 := (fX8_bad (-100) fRf).2
    (r_10, fNw, u_9))
  else (
    let r_6 : Int64 := fX8_of p1 fNw
    let fNw_8 : Nat → Int64 := vp_updL fNw (53 + p1.toNatClampNeg) p2.toInt64
    (r_6.toInt32, fNw_8, fRf))) : Int32 × (Nat → Int64) × (Nat → Int32))) er_2.symm).trans ((if_pos c_4).trans ((congrArg (fun (r_10 : Int32) => ((let u_9 : Nat → Int32 := (fX8_bad (-100) fRf).2
  (r_10, fNw, u_9)) : Int32 × (Nat → Int64) × (Nat → Int32))) er_10.symm).trans ((congrArg (fun (u_9 : Nat → Int32) => (((r_10, fNw, u_9)) : Int32 × (Nat → Int64) × (Nat → Int32))) eu_9.symm))))).symm
    have hf1 := congrArg Prod.fst hf
    have hf2 := congrArg Prod.snd hf
    exact kk_ei hx hb hr hlocks hK hq [1, 0, 2] (fNw, u_9) rfl (by decide) dX8_put_14 ⟨hf1, hf2⟩
