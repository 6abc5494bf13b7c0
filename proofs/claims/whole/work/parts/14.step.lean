def fX7_refusedAsBad (p1 : Int32) (Y_bads : Int32) : Int32 × Int32 :=
  let bads_1 : Int32 := Y_bads + 1
  (p1, bads_1)

set_option maxHeartbeats 4000000 in
set_option maxRecDepth 100000 in
theorem c_X7_refusedAsBad (l : Launch) (G : va_G) (aY rY_now rY_images rY_kept rY_law rY_reader rY_trial rY_stages rY_row rY_bestRow : Nat) (p1 : Int32) (Y_bestPeak : Int32) (Y_bads : Int32) (Y_noes : Int32) (Y_fulls : Int32) : kCi l yX7_refusedAsBad (Cond.code yX7_refusedAsBad cX7_refusedAsBad 2 (some .int) :: wsL_law) ({ frames := 0, cells := 0, slots := 0, locals := 0 }) G [] [.ref aY, .int p1] [(aY, .inr (7, [.ref rY_now, .ref rY_images, .ref rY_kept, .ref rY_law, .ref rY_reader, .ref rY_trial, .ref rY_stages, .ref rY_row, .ref rY_bestRow, .int Y_bestPeak, .int Y_bads, .int Y_noes, .int Y_fulls]))] (fun (r : Int32) (u : Int32) => r = (fX7_refusedAsBad p1 Y_bads).1 ∧ u = (fX7_refusedAsBad p1 Y_bads).2) (fun (u : Int32) => [(aY, .inr (7, [.ref rY_now, .ref rY_images, .ref rY_kept, .ref rY_law, .ref rY_reader, .ref rY_trial, .ref rY_stages, .ref rY_row, .ref rY_bestRow, .int Y_bestPeak, .int u, .int Y_noes, .int Y_fulls]))]) := by
  intro sz
  refine Met.ofW (cc := cX7_refusedAsBad) (maxL := 2) (ret := (some .int)) (by decide) rfl ?_
  intro p e s m args below meth c s₁ B hml hv
  obtain ⟨rfl, hv⟩ := hv
  obtain ⟨rfl, hK, hq, hA⟩ := kk_begin hv
  have hx := B.exec
  have hb := B.bytes
  have hr := B.returns
  have hts := atoms_spec (ws := (Cond.code yX7_refusedAsBad cX7_refusedAsBad 2 (some .int) :: wsL_law)) B.pre
  have hown : s.vm.findClass RX7 = some m.cls := findClass_of_methodNamed B.named
  have hlocks := B.notSynchronized
  have hsb : ∀ w ∈ wsL_law, w ∈ (Cond.code yX7_refusedAsBad cX7_refusedAsBad 2 (some .int) :: wsL_law) := fun _ h => List.mem_cons_of_mem _ h
  generalize va_A [(aY, .inr (7, [.ref rY_now, .ref rY_images, .ref rY_kept, .ref rY_law, .ref rY_reader, .ref rY_trial, .ref rY_stages, .ref rY_row, .ref rY_bestRow, .int Y_bestPeak, .int Y_bads, .int Y_noes, .int Y_fulls]))] s.heap.size = A at hq hA ⊢
  have iX7 : ∀ w ∈ u_ws RX7 TX7 13, w ∈ (Cond.code yX7_refusedAsBad cX7_refusedAsBad 2 (some .int) :: wsL_law) := fun w h => hsb w (bin_X7 w h)
  have lk0_ := hts _ (hsb _ wd_37)
  have hl := lv_entry ([.ref aY, .int p1]) (n := 2) (Nat.le_of_ble_eq_true rfl)
  rw [lg_entry_eq]
  generalize (lg_sl ([.ref aY, .int p1]) ++ List.replicate (2 - (lg_sl ([.ref aY, .int p1])).length) Slot.unset).toArray = ls at hl ⊢
  have hl : lv_has ls 2 [(0, .ref aY), (1, .int p1)] := hl
  refine lv_aload_n hx hb dX7_refusedAsBad_0 rfl (lv_at hl 0 rfl) ?_
  refine lv_dup hx hb dX7_refusedAsBad_1 rfl ?_
  refine kk_get (ci := 7) (v := .int Y_bads) (C := RX7) (T := TX7) (N := 13) hx hb hts iX7 hown hK hq 0 rfl rfl 10 (by decide) lk0_ rfl dX7_refusedAsBad_2 ?_
  refine lv_iconst (v := 1) hx hb dX7_refusedAsBad_5 (by decide) ?_
  refine lv_iadd hx hb dX7_refusedAsBad_6 ?_
  refine lv_topi (fun bads_1 ebads_1 => ?_)
  refine kk_put (ws' := [(aY, .inr (7, [.ref rY_now, .ref rY_images, .ref rY_kept, .ref rY_law, .ref rY_reader, .ref rY_trial, .ref rY_stages, .ref rY_row, .ref rY_bestRow, .int Y_bestPeak, .int bads_1, .int Y_noes, .int Y_fulls]))]) (ci := 7) (v := .int bads_1) (C := RX7) (T := TX7) (N := 13) hx hb hts iX7 tyX7_ok nmX7 hown hK hq 0 rfl rfl 10 (by decide) lk0_ rfl rfl rfl (Nat.le_of_ble_eq_true rfl) dX7_refusedAsBad_7 rfl (fun H locs hq => ?_)
  refine lv_iload_n hx hb dX7_refusedAsBad_10 rfl (lv_at hl 1 rfl) ?_
  have hf : ((p1, bads_1) : Int32 × Int32) = fX7_refusedAsBad p1 Y_bads := by
    exact ((congrArg (fun (bads_1 : Int32) => (((p1, bads_1)) : Int32 × Int32)) ebads_1.symm)).symm
  have hf1 := congrArg Prod.fst hf
  have hf2 := congrArg Prod.snd hf
  exact kk_ei hx hb hr hlocks hK hq [0] bads_1 rfl (by decide) dX7_refusedAsBad_11 ⟨hf1, hf2⟩
def fX7_refusedAsNo (Y_noes : Int32) : Int32 × Int32 :=
  let noes_1 : Int32 := Y_noes + 1
  ((-3), noes_1)

set_option maxHeartbeats 4000000 in
set_option maxRecDepth 100000 in
theorem c_X7_refusedAsNo (l : Launch) (G : va_G) (aY rY_now rY_images rY_kept rY_law rY_reader rY_trial rY_stages rY_row rY_bestRow : Nat) (Y_bestPeak : Int32) (Y_bads : Int32) (Y_noes : Int32) (Y_fulls : Int32) : kCi l yX7_refusedAsNo (Cond.code yX7_refusedAsNo cX7_refusedAsNo 1 (some .int) :: wsL_law) ({ frames := 0, cells := 0, slots := 0, locals := 0 }) G [] [.ref aY] [(aY, .inr (7, [.ref rY_now, .ref rY_images, .ref rY_kept, .ref rY_law, .ref rY_reader, .ref rY_trial, .ref rY_stages, .ref rY_row, .ref rY_bestRow, .int Y_bestPeak, .int Y_bads, .int Y_noes, .int Y_fulls]))] (fun (r : Int32) (u : Int32) => r = (fX7_refusedAsNo Y_noes).1 ∧ u = (fX7_refusedAsNo Y_noes).2) (fun (u : Int32) => [(aY, .inr (7, [.ref rY_now, .ref rY_images, .ref rY_kept, .ref rY_law, .ref rY_reader, .ref rY_trial, .ref rY_stages, .ref rY_row, .ref rY_bestRow, .int Y_bestPeak, .int Y_bads, .int u, .int Y_fulls]))]) := by
  intro sz
  refine Met.ofW (cc := cX7_refusedAsNo) (maxL := 1) (ret := (some .int)) (by decide) rfl ?_
  intro p e s m args below meth c s₁ B hml hv
  obtain ⟨rfl, hv⟩ := hv
  obtain ⟨rfl, hK, hq, hA⟩ := kk_begin hv
  have hx := B.exec
  have hb := B.bytes
  have hr := B.returns
  have hts := atoms_spec (ws := (Cond.code yX7_refusedAsNo cX7_refusedAsNo 1 (some .int) :: wsL_law)) B.pre
  have hown : s.vm.findClass RX7 = some m.cls := findClass_of_methodNamed B.named
  have hlocks := B.notSynchronized
  have hsb : ∀ w ∈ wsL_law, w ∈ (Cond.code yX7_refusedAsNo cX7_refusedAsNo 1 (some .int) :: wsL_law) := fun _ h => List.mem_cons_of_mem _ h
  generalize va_A [(aY, .inr (7, [.ref rY_now, .ref rY_images, .ref rY_kept, .ref rY_law, .ref rY_reader, .ref rY_trial, .ref rY_stages, .ref rY_row, .ref rY_bestRow, .int Y_bestPeak, .int Y_bads, .int Y_noes, .int Y_fulls]))] s.heap.size = A at hq hA ⊢
  have iX7 : ∀ w ∈ u_ws RX7 TX7 13, w ∈ (Cond.code yX7_refusedAsNo cX7_refusedAsNo 1 (some .int) :: wsL_law) := fun w h => hsb w (bin_X7 w h)
  have lk0_ := hts _ (hsb _ wd_38)
  have hl := lv_entry ([.ref aY]) (n := 1) (Nat.le_of_ble_eq_true rfl)
  rw [lg_entry_eq]
  generalize (lg_sl ([.ref aY]) ++ List.replicate (1 - (lg_sl ([.ref aY])).length) Slot.unset).toArray = ls at hl ⊢
  have hl : lv_has ls 1 [(0, .ref aY)] := hl
  refine lv_aload_n hx hb dX7_refusedAsNo_0 rfl (lv_at hl 0 rfl) ?_
  refine lv_dup hx hb dX7_refusedAsNo_1 rfl ?_
  refine kk_get (ci := 7) (v := .int Y_noes) (C := RX7) (T := TX7) (N := 13) hx hb hts iX7 hown hK hq 0 rfl rfl 11 (by decide) lk0_ rfl dX7_refusedAsNo_2 ?_
  refine lv_iconst (v := 1) hx hb dX7_refusedAsNo_5 (by decide) ?_
  refine lv_iadd hx hb dX7_refusedAsNo_6 ?_
  refine lv_topi (fun noes_1 enoes_1 => ?_)
  refine kk_put (ws' := [(aY, .inr (7, [.ref rY_now, .ref rY_images, .ref rY_kept, .ref rY_law, .ref rY_reader, .ref rY_trial, .ref rY_stages, .ref rY_row, .ref rY_bestRow, .int Y_bestPeak, .int Y_bads, .int noes_1, .int Y_fulls]))]) (ci := 7) (v := .int noes_1) (C := RX7) (T := TX7) (N := 13) hx hb hts iX7 tyX7_ok nmX7 hown hK hq 0 rfl rfl 11 (by decide) lk0_ rfl rfl rfl (Nat.le_of_ble_eq_true rfl) dX7_refusedAsNo_7 rfl (fun H locs hq => ?_)
  refine lv_bipush (v := -3) hx hb dX7_refusedAsNo_10 (by decide) ?_
  have hf : (((-3), noes_1) : Int32 × Int32) = fX7_refusedAsNo Y_noes := by
    exact ((congrArg (fun (noes_1 : Int32) => ((((-3), noes_1)) : Int32 × Int32)) enoes_1.symm)).symm
  have hf1 := congrArg Prod.fst hf
  have hf2 := congrArg Prod.snd hf
  exact kk_ei hx hb hr hlocks hK hq [0] noes_1 rfl (by decide) dX7_refusedAsNo_12 ⟨hf1, hf2⟩
def fX7_refusedAsFull (Y_fulls : Int32) : Int32 × Int32 :=
  let fulls_1 : Int32 := Y_fulls + 1
  ((-4), fulls_1)

set_option maxHeartbeats 4000000 in
set_option maxRecDepth 100000 in
theorem c_X7_refusedAsFull (l : Launch) (G : va_G) (aY rY_now rY_images rY_kept rY_law rY_reader rY_trial rY_stages rY_row rY_bestRow : Nat) (Y_bestPeak : Int32) (Y_bads : Int32) (Y_noes : Int32) (Y_fulls : Int32) : kCi l yX7_refusedAsFull (Cond.code yX7_refusedAsFull cX7_refusedAsFull 1 (some .int) :: wsL_law) ({ frames := 0, cells := 0, slots := 0, locals := 0 }) G [] [.ref aY] [(aY, .inr (7, [.ref rY_now, .ref rY_images, .ref rY_kept, .ref rY_law, .ref rY_reader, .ref rY_trial, .ref rY_stages, .ref rY_row, .ref rY_bestRow, .int Y_bestPeak, .int Y_bads, .int Y_noes, .int Y_fulls]))] (fun (r : Int32) (u : Int32) => r = (fX7_refusedAsFull Y_fulls).1 ∧ u = (fX7_refusedAsFull Y_fulls).2) (fun (u : Int32) => [(aY, .inr (7, [.ref rY_now, .ref rY_images, .ref rY_kept, .ref rY_law, .ref rY_reader, .ref rY_trial, .ref rY_stages, .ref rY_row, .ref rY_bestRow, .int Y_bestPeak, .int Y_bads, .int Y_noes, .int u]))]) := by
  intro sz
  refine Met.ofW (cc := cX7_refusedAsFull) (maxL := 1) (ret := (some .int)) (by decide) rfl ?_
  intro p e s m args below meth c s₁ B hml hv
  obtain ⟨rfl, hv⟩ := hv
  obtain ⟨rfl, hK, hq, hA⟩ := kk_begin hv
  have hx := B.exec
  have hb := B.bytes
  have hr := B.returns
  have hts := atoms_spec (ws := (Cond.code yX7_refusedAsFull cX7_refusedAsFull 1 (some .int) :: wsL_law)) B.pre
  have hown : s.vm.findClass RX7 = some m.cls := findClass_of_methodNamed B.named
  have hlocks := B.notSynchronized
  have hsb : ∀ w ∈ wsL_law, w ∈ (Cond.code yX7_refusedAsFull cX7_refusedAsFull 1 (some .int) :: wsL_law) := fun _ h => List.mem_cons_of_mem _ h
  generalize va_A [(aY, .inr (7, [.ref rY_now, .ref rY_images, .ref rY_kept, .ref rY_law, .ref rY_reader, .ref rY_trial, .ref rY_stages, .ref rY_row, .ref rY_bestRow, .int Y_bestPeak, .int Y_bads, .int Y_noes, .int Y_fulls]))] s.heap.size = A at hq hA ⊢
  have iX7 : ∀ w ∈ u_ws RX7 TX7 13, w ∈ (Cond.code yX7_refusedAsFull cX7_refusedAsFull 1 (some .int) :: wsL_law) := fun w h => hsb w (bin_X7 w h)
  have lk0_ := hts _ (hsb _ wd_39)
  have hl := lv_entry ([.ref aY]) (n := 1) (Nat.le_of_ble_eq_true rfl)
  rw [lg_entry_eq]
  generalize (lg_sl ([.ref aY]) ++ List.replicate (1 - (lg_sl ([.ref aY])).length) Slot.unset).toArray = ls at hl ⊢
  have hl : lv_has ls 1 [(0, .ref aY)] := hl
  refine lv_aload_n hx hb dX7_refusedAsFull_0 rfl (lv_at hl 0 rfl) ?_
  refine lv_dup hx hb dX7_refusedAsFull_1 rfl ?_
  refine kk_get (ci := 7) (v := .int Y_fulls) (C := RX7) (T := TX7) (N := 13) hx hb hts iX7 hown hK hq 0 rfl rfl 12 (by decide) lk0_ rfl dX7_refusedAsFull_2 ?_
  refine lv_iconst (v := 1) hx hb dX7_refusedAsFull_5 (by decide) ?_
  refine lv_iadd hx hb dX7_refusedAsFull_6 ?_
  refine lv_topi (fun fulls_1 efulls_1 => ?_)
  refine kk_put (ws' := [(aY, .inr (7, [.ref rY_now, .ref rY_images, .ref rY_kept, .ref rY_law, .ref rY_reader, .ref rY_trial, .ref rY_stages, .ref rY_row, .ref rY_bestRow, .int Y_bestPeak, .int Y_bads, .int Y_noes, .int fulls_1]))]) (ci := 7) (v := .int fulls_1) (C := RX7) (T := TX7) (N := 13) hx hb hts iX7 tyX7_ok nmX7 hown hK hq 0 rfl rfl 12 (by decide) lk0_ rfl rfl rfl (Nat.le_of_ble_eq_true rfl) dX7_refusedAsFull_7 rfl (fun H locs hq => ?_)
  refine lv_bipush (v := -4) hx hb dX7_refusedAsFull_10 (by decide) ?_
  have hf : (((-4), fulls_1) : Int32 × Int32) = fX7_refusedAsFull Y_fulls := by
    exact ((congrArg (fun (fulls_1 : Int32) => ((((-4), fulls_1)) : Int32 × Int32)) efulls_1.symm)).symm
  have hf1 := congrArg Prod.fst hf
  have hf2 := congrArg Prod.snd hf
  exact kk_ei hx hb hr hlocks hK hq [0] fulls_1 rfl (by decide) dX7_refusedAsFull_12 ⟨hf1, hf2⟩
def fX7_within (p1 : Int32) (p2 : Int32) (p3 : Int32) : Int32 :=
  let z0_2 : Int32 := if p1 < p2 then 0 else if p3 < p1 then 0 else 1
  z0_2

set_option maxHeartbeats 4000000 in
set_option maxRecDepth 100000 in
theorem c_X7_within (l : Launch) (G : va_G) (p1 : Int32) (p2 : Int32) (p3 : Int32) : kCi l yX7_within (Cond.code yX7_within cX7_within 3 (some .boolean) :: wsL_law) ({ frames := 0, cells := 0, slots := 0, locals := 0 }) G [] [.int p1, .int p2, .int p3] [] (fun (r : Int32) (_ : Unit) => r = fX7_within p1 p2 p3 ∧ (r = 0 ∨ r = 1)) (fun (_ : Unit) => []) := by
  intro sz
  refine Met.ofW (cc := cX7_within) (maxL := 3) (ret := (some .boolean)) (by decide) rfl ?_
  intro p e s m args below meth c s₁ B hml hv
  obtain ⟨rfl, hv⟩ := hv
  obtain ⟨rfl, hK, hq, hA⟩ := kk_begin hv
  have hx := B.exec
  have hb := B.bytes
  have hr := B.returns
  have hts := atoms_spec (ws := (Cond.code yX7_within cX7_within 3 (some .boolean) :: wsL_law)) B.pre
  have hown : s.vm.findClass RX7 = some m.cls := findClass_of_methodNamed B.named
  have hlocks := B.notSynchronized
  have hsb : ∀ w ∈ wsL_law, w ∈ (Cond.code yX7_within cX7_within 3 (some .boolean) :: wsL_law) := fun _ h => List.mem_cons_of_mem _ h
  generalize va_A [] s.heap.size = A at hq hA ⊢
  have hl := lv_entry ([.int p1, .int p2, .int p3]) (n := 3) (Nat.le_of_ble_eq_true rfl)
  rw [lg_entry_eq]
  generalize (lg_sl ([.int p1, .int p2, .int p3]) ++ List.replicate (3 - (lg_sl ([.int p1, .int p2, .int p3])).length) Slot.unset).toArray = ls at hl ⊢
  have hl : lv_has ls 3 [(0, .int p1), (1, .int p2), (2, .int p3)] := hl
  refine lv_iload_n hx hb dX7_within_0 rfl (lv_at hl 0 rfl) ?_
  refine lv_iload_n hx hb dX7_within_1 rfl (lv_at hl 1 rfl) ?_
  refine kk_join1 (fun (z0_2 : Int32) (H : Heap) (locs : List Loc) (ls : Array Slot) => z0_2 = (if p1 < p2 then 0 else if p3 < p1 then 0 else 1) ∧ lv_has ls 3 [(0, .int p1), (1, .int p2), (2, .int p3)] ∧ kAt G A s [] H locs) 15 (fun z0_2 => [.int z0_2]) (fun z0_2 H locs ls hv => ?_) (fun J_3 => ?_)
  · skip
    obtain ⟨ez0_2, hl, hq⟩ := hv
    have hf : (z0_2 : Int32) = fX7_within p1 p2 p3 := by
      exact ((congrArg (fun (z0_2 : Int32) => ((z0_2) : Int32)) ez0_2.symm)).symm
    have hz : (z0_2 : Int32) = 0 ∨ (z0_2 : Int32) = 1 := (by rw [ez0_2]; repeat (first | exact Or.inl rfl | exact Or.inr rfl | split))
    exact kk_ez hx hb hr hlocks hz hK hq [] () rfl (by decide) dX7_within_15 ⟨hf, hz⟩
  · skip
    refine lv_icmp_lt (tgt := 14) hx hb dX7_within_2 (by decide) (fun c_1 => ?_) (fun c_1 => ?_)
    · skip
      refine lv_iconst (v := 0) hx hb dX7_within_14 (by decide) ?_
      exact J_3 0 _ _ _ ⟨(if_pos c_1).symm, lv_sub hl [0, 1, 2] rfl, hq⟩
    · skip
      refine lv_iload_n hx hb dX7_within_5 rfl (lv_at hl 0 rfl) ?_
      refine lv_iload_n hx hb dX7_within_6 rfl (lv_at hl 2 rfl) ?_
      refine lv_icmp_gt (tgt := 14) hx hb dX7_within_7 (by decide) (fun c_4 => ?_) (fun c_4 => ?_)
      · skip
        refine lv_iconst (v := 0) hx hb dX7_within_14 (by decide) ?_
        exact J_3 0 _ _ _ ⟨((if_neg c_1).trans (if_pos c_4)).symm, lv_sub hl [0, 1, 2] rfl, hq⟩
      · skip
        refine lv_iconst (v := 1) hx hb dX7_within_10 (by decide) ?_
        refine lv_goto (tgt := 15) hx hb dX7_within_11 (by decide) ?_
        exact J_3 1 _ _ _ ⟨((if_neg c_1).trans (if_neg c_4)).symm, lv_sub hl [0, 1, 2] rfl, hq⟩
theorem hd_X7_within : yX7_within.cls ≠ "java/lang/invoke/MethodHandle" ∧ yX7_within.cls ≠ "java/lang/invoke/VarHandle" ∧ (parseMethodDescriptor yX7_within.desc).map (fun d => d.parameters.length) = some 3 := by decide +kernel
def fX7_isForce (p1 : Int32) : Int32 :=
  let r_2 : Int32 := fX7_within p1 (-30000) 30000
  r_2

set_option maxHeartbeats 4000000 in
set_option maxRecDepth 100000 in
theorem c_X7_isForce (l : Launch) (G : va_G) (p1 : Int32) : kCi l yX7_isForce (Cond.code yX7_isForce cX7_isForce 1 (some .boolean) :: wsL_law) ({ frames := 1, cells := 0, slots := 0, locals := 22 }) G [] [.int p1] [] (fun (r : Int32) (_ : Unit) => r = fX7_isForce p1 ∧ (r = 0 ∨ r = 1)) (fun (_ : Unit) => []) := by
  intro sz
  refine Met.ofW (cc := cX7_isForce) (maxL := 1) (ret := (some .boolean)) (by decide) rfl ?_
  intro p e s m args below meth c s₁ B hml hv
  obtain ⟨rfl, hv⟩ := hv
  obtain ⟨rfl, hK, hq, hA⟩ := kk_begin hv
  have hx := B.exec
  have hb := B.bytes
  have hr := B.returns
  have hts := atoms_spec (ws := (Cond.code yX7_isForce cX7_isForce 1 (some .boolean) :: wsL_law)) B.pre
  have hown : s.vm.findClass RX7 = some m.cls := findClass_of_methodNamed B.named
  have hlocks := B.notSynchronized
  have hsb : ∀ w ∈ wsL_law, w ∈ (Cond.code yX7_isForce cX7_isForce 1 (some .boolean) :: wsL_law) := fun _ h => List.mem_cons_of_mem _ h
  generalize va_A [] s.heap.size = A at hq hA ⊢
  have hl := lv_entry ([.int p1]) (n := 1) (Nat.le_of_ble_eq_true rfl)
  rw [lg_entry_eq]
  generalize (lg_sl ([.int p1]) ++ List.replicate (1 - (lg_sl ([.int p1])).length) Slot.unset).toArray = ls at hl ⊢
  have hl : lv_has ls 1 [(0, .int p1)] := hl
  refine lv_iload_n hx hb dX7_isForce_0 rfl (lv_at hl 0 rfl) ?_
  refine lv_sipush (v := -30000) hx hb dX7_isForce_1 (by decide) ?_
  refine lv_sipush (v := 30000) hx hb dX7_isForce_4 (by decide) ?_
  refine kk_Si (As := [.int p1, .int (-30000), .int 30000]) (rest := []) (wr := []) ⟨hx, hb, hml, hown, hts⟩ (c_X7_within l G p1 (-30000) 30000) (kk_cwS 3 hts hsb wd_136 wd_137 wd_2 wd_138 rfl rfl hd_X7_within ⟨Nat.le_of_ble_eq_true rfl, Nat.le_of_ble_eq_true rfl⟩) hA hK hq [] [] [] rfl rfl rfl (by decide) (by decide) (by decide) rfl hl.1 rfl (Nat.le_of_ble_eq_true rfl) dX7_isForce_7 ⟨Nat.zero_le _, Nat.zero_le _⟩ (fun r_2 u_1 H locs h_3 hq => ?_)
  obtain ⟨er_2, zr_2⟩ := h_3
  have hq : kAt G A s [] H locs := hq
  have hf : (r_2 : Int32) = fX7_isForce p1 := by
    exact ((congrArg (fun (r_2 : Int32) => ((r_2) : Int32)) er_2.symm)).symm
  have hz : (r_2 : Int32) = 0 ∨ (r_2 : Int32) = 1 := zr_2
  exact kk_ez hx hb hr hlocks hz hK hq [] () rfl (by decide) dX7_isForce_10 ⟨hf, hz⟩
def fX7_isRun (p1 : Int32) : Int32 :=
  let r_2 : Int32 := fX7_within p1 1 500
  r_2

set_option maxHeartbeats 4000000 in
set_option maxRecDepth 100000 in
theorem c_X7_isRun (l : Launch) (G : va_G) (p1 : Int32) : kCi l yX7_isRun (Cond.code yX7_isRun cX7_isRun 1 (some .boolean) :: wsL_law) ({ frames := 1, cells := 0, slots := 0, locals := 22 }) G [] [.int p1] [] (fun (r : Int32) (_ : Unit) => r = fX7_isRun p1 ∧ (r = 0 ∨ r = 1)) (fun (_ : Unit) => []) := by
  intro sz
  refine Met.ofW (cc := cX7_isRun) (maxL := 1) (ret := (some .boolean)) (by decide) rfl ?_
  intro p e s m args below meth c s₁ B hml hv
  obtain ⟨rfl, hv⟩ := hv
  obtain ⟨rfl, hK, hq, hA⟩ := kk_begin hv
  have hx := B.exec
  have hb := B.bytes
  have hr := B.returns
  have hts := atoms_spec (ws := (Cond.code yX7_isRun cX7_isRun 1 (some .boolean) :: wsL_law)) B.pre
  have hown : s.vm.findClass RX7 = some m.cls := findClass_of_methodNamed B.named
  have hlocks := B.notSynchronized
  have hsb : ∀ w ∈ wsL_law, w ∈ (Cond.code yX7_isRun cX7_isRun 1 (some .boolean) :: wsL_law) := fun _ h => List.mem_cons_of_mem _ h
  generalize va_A [] s.heap.size = A at hq hA ⊢
  have hl := lv_entry ([.int p1]) (n := 1) (Nat.le_of_ble_eq_true rfl)
  rw [lg_entry_eq]
  generalize (lg_sl ([.int p1]) ++ List.replicate (1 - (lg_sl ([.int p1])).length) Slot.unset).toArray = ls at hl ⊢
  have hl : lv_has ls 1 [(0, .int p1)] := hl
  refine lv_iload_n hx hb dX7_isRun_0 rfl (lv_at hl 0 rfl) ?_
  refine lv_iconst (v := 1) hx hb dX7_isRun_1 (by decide) ?_
  refine lv_sipush (v := 500) hx hb dX7_isRun_2 (by decide) ?_
  refine kk_Si (As := [.int p1, .int 1, .int 500]) (rest := []) (wr := []) ⟨hx, hb, hml, hown, hts⟩ (c_X7_within l G p1 1 500) (kk_cwS 3 hts hsb wd_136 wd_137 wd_2 wd_138 rfl rfl hd_X7_within ⟨Nat.le_of_ble_eq_true rfl, Nat.le_of_ble_eq_true rfl⟩) hA hK hq [] [] [] rfl rfl rfl (by decide) (by decide) (by decide) rfl hl.1 rfl (Nat.le_of_ble_eq_true rfl) dX7_isRun_5 ⟨Nat.zero_le _, Nat.zero_le _⟩ (fun r_2 u_1 H locs h_3 hq => ?_)
  obtain ⟨er_2, zr_2⟩ := h_3
  have hq : kAt G A s [] H locs := hq
  have hf : (r_2 : Int32) = fX7_isRun p1 := by
    exact ((congrArg (fun (r_2 : Int32) => ((r_2) : Int32)) er_2.symm)).symm
  have hz : (r_2 : Int32) = 0 ∨ (r_2 : Int32) = 1 := zr_2
  exact kk_ez hx hb hr hlocks hz hK hq [] () rfl (by decide) dX7_isRun_8 ⟨hf, hz⟩
theorem wi_le {x a b : Int32} (h : ¬ fX7_within x a b = 0) : a ≤ x ∧ x ≤ b := by
  unfold fX7_within at h
  dsimp only at h
  by_cases h1 : x < a
  · rw [if_pos h1] at h; exact absurd rfl h
  · rw [if_neg h1] at h
    by_cases h2 : b < x
    · rw [if_pos h2] at h; exact absurd rfl h
    · exact ⟨Int32.not_lt.mp h1, Int32.not_lt.mp h2⟩
theorem run_le {n : Int32} (h : ¬ fX7_isRun n = 0) : 1 ≤ n.toInt ∧ n.toInt ≤ 500 := by
  obtain ⟨h1, h2⟩ := wi_le (x := n) (a := 1) (b := 500) h
  exact ⟨kk_le (k := 1) rfl h1, kk_le2 (k := 500) rfl h2⟩
theorem hd_X0_valueTold : yX0_valueTold.cls = RX0 ∧ yX0_valueTold.cls ≠ "java/lang/invoke/MethodHandle" ∧ yX0_valueTold.cls ≠ "java/lang/invoke/VarHandle" ∧ (parseMethodDescriptor yX0_valueTold.desc).map (fun d => d.parameters.length) = some 1 := by decide +kernel
def fX7_valueTold (p1 : Int32) (C_place : Int64) (C_speed : Int64) (C_posture : Int32) (C_since : Int32) (C_height : Int32) (C_ticks : Int32) (C_strength : Int32) (C_drops : Int32) (C_greatestDrop : Int32) (C_otherPlace : Int64) (C_otherSpeed : Int64) (U_count : Int32) : Int32 :=
  let z0_2 : Int32 := if p1 = 6 then U_count else fX0_valueTold p1 C_place C_speed C_posture C_since C_height C_ticks C_strength C_drops C_greatestDrop C_otherPlace C_otherSpeed
  z0_2

set_option maxHeartbeats 4000000 in
set_option maxRecDepth 100000 in
theorem c_X7_valueTold (l : Launch) (G : va_G) (aY aS aC aU rY_images rY_kept rY_law rY_reader rY_trial rY_stages rY_row rY_bestRow rS_numbers rS_text rS_pushes rU_heights : Nat) (p1 : Int32) (Y_bestPeak : Int32) (Y_bads : Int32) (Y_noes : Int32) (Y_fulls : Int32) (C_place : Int64) (C_speed : Int64) (C_posture : Int32) (C_since : Int32) (C_height : Int32) (C_ticks : Int32) (C_way : Int32) (C_strength : Int32) (C_drops : Int32) (C_greatestDrop : Int32) (C_otherPlace : Int64) (C_otherSpeed : Int64) (U_count : Int32) : kCi l yX7_valueTold (Cond.code yX7_valueTold cX7_valueTold 2 (some .int) :: wsL_law) ({ frames := 1, cells := 0, slots := 0, locals := 21 }) G [] [.ref aY, .int p1] [(aY, .inr (7, [.ref aS, .ref rY_images, .ref rY_kept, .ref rY_law, .ref rY_reader, .ref rY_trial, .ref rY_stages, .ref rY_row, .ref rY_bestRow, .int Y_bestPeak, .int Y_bads, .int Y_noes, .int Y_fulls])), (aS, .inr (4, [.ref rS_numbers, .ref rS_text, .ref rS_pushes, .ref aC, .ref aU])), (aC, .inr (0, [.long C_place, .long C_speed, .int C_posture, .int C_since, .int C_height, .int C_ticks, .int C_way, .int C_strength, .int C_drops, .int C_greatestDrop, .long C_otherPlace, .long C_otherSpeed])), (aU, .inr (6, [.ref rU_heights, .int U_count]))] (fun (r : Int32) (_ : Unit) => r = fX7_valueTold p1 C_place C_speed C_posture C_since C_height C_ticks C_strength C_drops C_greatestDrop C_otherPlace C_otherSpeed U_count) (fun (_ : Unit) => [(aY, .inr (7, [.ref aS, .ref rY_images, .ref rY_kept, .ref rY_law, .ref rY_reader, .ref rY_trial, .ref rY_stages, .ref rY_row, .ref rY_bestRow, .int Y_bestPeak, .int Y_bads, .int Y_noes, .int Y_fulls])), (aS, .inr (4, [.ref rS_numbers, .ref rS_text, .ref rS_pushes, .ref aC, .ref aU])), (aC, .inr (0, [.long C_place, .long C_speed, .int C_posture, .int C_since, .int C_height, .int C_ticks, .int C_way, .int C_strength, .int C_drops, .int C_greatestDrop, .long C_otherPlace, .long C_otherSpeed])), (aU, .inr (6, [.ref rU_heights, .int U_count]))]) := by
  intro sz
  refine Met.ofW (cc := cX7_valueTold) (maxL := 2) (ret := (some .int)) (by decide) rfl ?_
  intro p e s m args below meth c s₁ B hml hv
  obtain ⟨rfl, hv⟩ := hv
  obtain ⟨rfl, hK, hq, hA⟩ := kk_begin hv
  have hx := B.exec
  have hb := B.bytes
  have hr := B.returns
  have hts := atoms_spec (ws := (Cond.code yX7_valueTold cX7_valueTold 2 (some .int) :: wsL_law)) B.pre
  have hown : s.vm.findClass RX7 = some m.cls := findClass_of_methodNamed B.named
  have hlocks := B.notSynchronized
  have hsb : ∀ w ∈ wsL_law, w ∈ (Cond.code yX7_valueTold cX7_valueTold 2 (some .int) :: wsL_law) := fun _ h => List.mem_cons_of_mem _ h
  generalize va_A [(aY, .inr (7, [.ref aS, .ref rY_images, .ref rY_kept, .ref rY_law, .ref rY_reader, .ref rY_trial, .ref rY_stages, .ref rY_row, .ref rY_bestRow, .int Y_bestPeak, .int Y_bads, .int Y_noes, .int Y_fulls])), (aS, .inr (4, [.ref rS_numbers, .ref rS_text, .ref rS_pushes, .ref aC, .ref aU])), (aC, .inr (0, [.long C_place, .long C_speed, .int C_posture, .int C_since, .int C_height, .int C_ticks, .int C_way, .int C_strength, .int C_drops, .int C_greatestDrop, .long C_otherPlace, .long C_otherSpeed])), (aU, .inr (6, [.ref rU_heights, .int U_count]))] s.heap.size = A at hq hA ⊢
  have iX4 : ∀ w ∈ u_ws RX4 TX4 5, w ∈ (Cond.code yX7_valueTold cX7_valueTold 2 (some .int) :: wsL_law) := fun w h => hsb w (bin_X4 w h)
  have iX6 : ∀ w ∈ u_ws RX6 TX6 2, w ∈ (Cond.code yX7_valueTold cX7_valueTold 2 (some .int) :: wsL_law) := fun w h => hsb w (bin_X6 w h)
  have iX7 : ∀ w ∈ u_ws RX7 TX7 13, w ∈ (Cond.code yX7_valueTold cX7_valueTold 2 (some .int) :: wsL_law) := fun w h => hsb w (bin_X7 w h)
  have lk0_ := hts _ (hsb _ wd_15)
  have lk1_ := hts _ (hsb _ wd_369)
  have lk2_ := hts _ (hsb _ wd_370)
  have lk3_ := hts _ (hsb _ wd_580)
  have hl := lv_entry ([.ref aY, .int p1]) (n := 2) (Nat.le_of_ble_eq_true rfl)
  rw [lg_entry_eq]
  generalize (lg_sl ([.ref aY, .int p1]) ++ List.replicate (2 - (lg_sl ([.ref aY, .int p1])).length) Slot.unset).toArray = ls at hl ⊢
  have hl : lv_has ls 2 [(0, .ref aY), (1, .int p1)] := hl
  refine lv_iload_n hx hb dX7_valueTold_0 rfl (lv_at hl 1 rfl) ?_
  refine lv_bipush (v := 6) hx hb dX7_valueTold_1 (by decide) ?_
  refine kk_join1 (fun (z0_2 : Int32) (H : Heap) (locs : List Loc) (ls : Array Slot) => z0_2 = (if p1 = 6 then U_count else fX0_valueTold p1 C_place C_speed C_posture C_since C_height C_ticks C_strength C_drops C_greatestDrop C_otherPlace C_otherSpeed) ∧ lv_has ls 2 [(0, .ref aY), (1, .int p1)] ∧ kAt G A s [(aY, .inr (7, [.ref aS, .ref rY_images, .ref rY_kept, .ref rY_law, .ref rY_reader, .ref rY_trial, .ref rY_stages, .ref rY_row, .ref rY_bestRow, .int Y_bestPeak, .int Y_bads, .int Y_noes, .int Y_fulls])), (aS, .inr (4, [.ref rS_numbers, .ref rS_text, .ref rS_pushes, .ref aC, .ref aU])), (aU, .inr (6, [.ref rU_heights, .int U_count])), (aC, .inr (0, [.long C_place, .long C_speed, .int C_posture, .int C_since, .int C_height, .int C_ticks, .int C_way, .int C_strength, .int C_drops, .int C_greatestDrop, .long C_otherPlace, .long C_otherSpeed]))] H locs) 30 (fun z0_2 => [.int z0_2]) (fun z0_2 H locs ls hv => ?_) (fun J_3 => ?_)
  · skip
    obtain ⟨ez0_2, hl, hq⟩ := hv
    have hf : (z0_2 : Int32) = fX7_valueTold p1 C_place C_speed C_posture C_since C_height C_ticks C_strength C_drops C_greatestDrop C_otherPlace C_otherSpeed U_count := by
      exact ((congrArg (fun (z0_2 : Int32) => ((z0_2) : Int32)) ez0_2.symm)).symm
    exact kk_ei hx hb hr hlocks hK hq [0, 1, 3, 2] () rfl (by decide) dX7_valueTold_30 hf
  · skip
    refine lv_icmp_ne (tgt := 19) hx hb dX7_valueTold_3 (by decide) (fun c_1 => ?_) (fun c_1 => ?_)
    · skip
      refine lv_aload_n hx hb dX7_valueTold_19 rfl (lv_at hl 0 rfl) ?_
      refine kk_get (ci := 7) (v := .ref aS) (C := RX7) (T := TX7) (N := 13) hx hb hts iX7 hown hK hq 0 rfl rfl 0 (by decide) lk0_ rfl dX7_valueTold_20 ?_
      refine kk_get (ci := 4) (v := .ref aC) (C := RX4) (T := TX4) (N := 5) hx hb hts iX4 hown hK hq 1 rfl rfl 3 (by decide) lk1_ rfl dX7_valueTold_23 ?_
      refine lv_iload_n hx hb dX7_valueTold_26 rfl (lv_at hl 1 rfl) ?_
      refine kk_Vi (As := [.int p1]) (rest := []) (wr := [(aY, .inr (7, [.ref aS, .ref rY_images, .ref rY_kept, .ref rY_law, .ref rY_reader, .ref rY_trial, .ref rY_stages, .ref rY_row, .ref rY_bestRow, .int Y_bestPeak, .int Y_bads, .int Y_noes, .int Y_fulls])), (aS, .inr (4, [.ref rS_numbers, .ref rS_text, .ref rS_pushes, .ref aC, .ref aU])), (aU, .inr (6, [.ref rU_heights, .int U_count]))]) ⟨hx, hb, hml, hown, hts⟩ (c_X0_valueTold l G aC p1 C_place C_speed C_posture C_since C_height C_ticks C_way C_strength C_drops C_greatestDrop C_otherPlace C_otherSpeed) (kk_cwV 1 hts hsb wd_581 wd_582 wd_583 wd_30 wd_584 rfl rfl hd_X0_valueTold ⟨Nat.le_of_ble_eq_true rfl, Nat.le_of_ble_eq_true rfl⟩) hA hK hq [2] [0, 1, 3] [] rfl rfl rfl (by decide) (by decide) (by decide) 0 0 rfl rfl rfl rfl hl.1 rfl (Nat.le_of_ble_eq_true rfl) dX7_valueTold_27 ⟨Nat.zero_le _, Nat.zero_le _⟩ (fun r_5 u_4 H locs h_6 hq => ?_)
      obtain rfl := h_6
      have hq : kAt G A s [(aY, .inr (7, [.ref aS, .ref rY_images, .ref rY_kept, .ref rY_law, .ref rY_reader, .ref rY_trial, .ref rY_stages, .ref rY_row, .ref rY_bestRow, .int Y_bestPeak, .int Y_bads, .int Y_noes, .int Y_fulls])), (aS, .inr (4, [.ref rS_numbers, .ref rS_text, .ref rS_pushes, .ref aC, .ref aU])), (aU, .inr (6, [.ref rU_heights, .int U_count])), (aC, .inr (0, [.long C_place, .long C_speed, .int C_posture, .int C_since, .int C_height, .int C_ticks, .int C_way, .int C_strength, .int C_drops, .int C_greatestDrop, .long C_otherPlace, .long C_otherSpeed]))] H locs := hq
      exact J_3 (fX0_valueTold p1 C_place C_speed C_posture C_since C_height C_ticks C_strength C_drops C_greatestDrop C_otherPlace C_otherSpeed) _ _ _ ⟨(if_neg c_1).symm, lv_sub hl [0, 1] rfl, hq⟩
    · skip
      refine lv_aload_n hx hb dX7_valueTold_6 rfl (lv_at hl 0 rfl) ?_
      refine kk_get (ci := 7) (v := .ref aS) (C := RX7) (T := TX7) (N := 13) hx hb hts iX7 hown hK hq 0 rfl rfl 0 (by decide) lk0_ rfl dX7_valueTold_7 ?_
      refine kk_get (ci := 4) (v := .ref aU) (C := RX4) (T := TX4) (N := 5) hx hb hts iX4 hown hK hq 1 rfl rfl 4 (by decide) lk2_ rfl dX7_valueTold_10 ?_
      refine kk_get (ci := 6) (v := .int U_count) (C := RX6) (T := TX6) (N := 2) hx hb hts iX6 hown hK hq 3 rfl rfl 1 (by decide) lk3_ rfl dX7_valueTold_13 ?_
      refine lv_goto (tgt := 30) hx hb dX7_valueTold_16 (by decide) ?_
      exact J_3 U_count _ _ _ ⟨(if_pos c_1).symm, lv_sub hl [0, 1] rfl, (kk_sub hq [0, 1, 3, 2] rfl (by decide))⟩
theorem hd_X0_step : yX0_step.cls = RX0 ∧ yX0_step.cls ≠ "java/lang/invoke/MethodHandle" ∧ yX0_step.cls ≠ "java/lang/invoke/VarHandle" ∧ (parseMethodDescriptor yX0_step.desc).map (fun d => d.parameters.length) = some 3 := by decide +kernel
theorem hd_X3_forceAt : yX3_forceAt.cls = RX3 ∧ yX3_forceAt.cls ≠ "java/lang/invoke/MethodHandle" ∧ yX3_forceAt.cls ≠ "java/lang/invoke/VarHandle" ∧ (parseMethodDescriptor yX3_forceAt.desc).map (fun d => d.parameters.length) = some 1 := by decide +kernel
def fX7_stepWishing (p2 : Int32) (p3 : Int32) (fN : Nat → Int32) (P_count : Int32) (fPT : Nat → Int32) (fPF : Nat → Int32) (X_place : Int64) (X_speed : Int64) (X_posture : Int32) (X_since : Int32) (X_height : Int32) (X_ticks : Int32) (X_way : Int32) (X_strength : Int32) (X_drops : Int32) (X_greatestDrop : Int32) (X_otherPlace : Int64) (X_otherSpeed : Int64) : Int32 × Int64 × Int64 × Int32 × Int32 × Int32 × Int32 × Int32 × Int32 × Int32 × Int32 × Int64 × Int64 :=
  let r_2 : Int32 := fX3_forceAt X_ticks P_count fPT fPF
  let r_5 : Int32 := (fX0_step p2 (r_2 + p3) X_place X_speed X_posture X_since X_height X_ticks X_way X_strength X_drops X_greatestDrop X_otherPlace X_otherSpeed fN).1
  let u_4 : Int64 × Int64 × Int32 × Int32 × Int32 × Int32 × Int32 × Int32 × Int32 × Int32 × Int64 × Int64 := (fX0_step p2 (r_2 + p3) X_place X_speed X_posture X_since X_height X_ticks X_way X_strength X_drops X_greatestDrop X_otherPlace X_otherSpeed fN).2
  (r_5, u_4.1, u_4.2.1, u_4.2.2.1, u_4.2.2.2.1, u_4.2.2.2.2.1, u_4.2.2.2.2.2.1, u_4.2.2.2.2.2.2.1, u_4.2.2.2.2.2.2.2.1, u_4.2.2.2.2.2.2.2.2.1, u_4.2.2.2.2.2.2.2.2.2.1, u_4.2.2.2.2.2.2.2.2.2.2.1, u_4.2.2.2.2.2.2.2.2.2.2.2)

set_option maxHeartbeats 4000000 in
set_option maxRecDepth 100000 in
theorem c_X7_stepWishing (l : Launch) (G : va_G) (aY aS aN aP aPT aPF aX rY_images rY_kept rY_law rY_reader rY_trial rY_stages rY_row rY_bestRow rS_text rS_child rS_turns : Nat) (cN cPT cPF : ClassId) (p2 : Int32) (p3 : Int32) (Y_bestPeak : Int32) (Y_bads : Int32) (Y_noes : Int32) (Y_fulls : Int32) (fN : Nat → Int32) (P_count : Int32) (fPT : Nat → Int32) (fPF : Nat → Int32) (X_place : Int64) (X_speed : Int64) (X_posture : Int32) (X_since : Int32) (X_height : Int32) (X_ticks : Int32) (X_way : Int32) (X_strength : Int32) (X_drops : Int32) (X_greatestDrop : Int32) (X_otherPlace : Int64) (X_otherSpeed : Int64) : kCi l yX7_stepWishing (Cond.code yX7_stepWishing cX7_stepWishing 4 (some .boolean) :: wsL_law) ({ frames := 4, cells := 0, slots := 0, locals := 106 }) G [(cN, .int), (cPT, .int), (cPF, .int)] [.ref aY, .ref aX, .int p2, .int p3] [(aY, .inr (7, [.ref aS, .ref rY_images, .ref rY_kept, .ref rY_law, .ref rY_reader, .ref rY_trial, .ref rY_stages, .ref rY_row, .ref rY_bestRow, .int Y_bestPeak, .int Y_bads, .int Y_noes, .int Y_fulls])), (aS, .inr (4, [.ref aN, .ref rS_text, .ref aP, .ref rS_child, .ref rS_turns])), (aN, .inl (cN, 8, .inl fN)), (aP, .inr (3, [.ref aPT, .ref aPF, .int P_count])), (aPT, .inl (cPT, 8, .inl fPT)), (aPF, .inl (cPF, 8, .inl fPF)), (aX, .inr (0, [.long X_place, .long X_speed, .int X_posture, .int X_since, .int X_height, .int X_ticks, .int X_way, .int X_strength, .int X_drops, .int X_greatestDrop, .long X_otherPlace, .long X_otherSpeed]))] (fun (r : Int32) (u : Int64 × Int64 × Int32 × Int32 × Int32 × Int32 × Int32 × Int32 × Int32 × Int32 × Int64 × Int64) => r = (fX7_stepWishing p2 p3 fN P_count fPT fPF X_place X_speed X_posture X_since X_height X_ticks X_way X_strength X_drops X_greatestDrop X_otherPlace X_otherSpeed).1 ∧ u = (fX7_stepWishing p2 p3 fN P_count fPT fPF X_place X_speed X_posture X_since X_height X_ticks X_way X_strength X_drops X_greatestDrop X_otherPlace X_otherSpeed).2 ∧ (r = 0 ∨ r = 1)) (fun (u : Int64 × Int64 × Int32 × Int32 × Int32 × Int32 × Int32 × Int32 × Int32 × Int32 × Int64 × Int64) => [(aY, .inr (7, [.ref aS, .ref rY_images, .ref rY_kept, .ref rY_law, .ref rY_reader, .ref rY_trial, .ref rY_stages, .ref rY_row, .ref rY_bestRow, .int Y_bestPeak, .int Y_bads, .int Y_noes, .int Y_fulls])), (aS, .inr (4, [.ref aN, .ref rS_text, .ref aP, .ref rS_child, .ref rS_turns])), (aN, .inl (cN, 8, .inl fN)), (aP, .inr (3, [.ref aPT, .ref aPF, .int P_count])), (aPT, .inl (cPT, 8, .inl fPT)), (aPF, .inl (cPF, 8, .inl fPF)), (aX, .inr (0, [.long u.1, .long u.2.1, .int u.2.2.1, .int u.2.2.2.1, .int u.2.2.2.2.1, .int u.2.2.2.2.2.1, .int u.2.2.2.2.2.2.1, .int u.2.2.2.2.2.2.2.1, .int u.2.2.2.2.2.2.2.2.1, .int u.2.2.2.2.2.2.2.2.2.1, .long u.2.2.2.2.2.2.2.2.2.2.1, .long u.2.2.2.2.2.2.2.2.2.2.2]))]) := by
  intro sz
  refine Met.ofW (cc := cX7_stepWishing) (maxL := 4) (ret := (some .boolean)) (by decide) rfl ?_
  intro p e s m args below meth c s₁ B hml hv
  obtain ⟨rfl, hv⟩ := hv
  obtain ⟨rfl, hK, hq, hA⟩ := kk_begin hv
  have hx := B.exec
  have hb := B.bytes
  have hr := B.returns
  have hts := atoms_spec (ws := (Cond.code yX7_stepWishing cX7_stepWishing 4 (some .boolean) :: wsL_law)) B.pre
  have hown : s.vm.findClass RX7 = some m.cls := findClass_of_methodNamed B.named
  have hlocks := B.notSynchronized
  have hsb : ∀ w ∈ wsL_law, w ∈ (Cond.code yX7_stepWishing cX7_stepWishing 4 (some .boolean) :: wsL_law) := fun _ h => List.mem_cons_of_mem _ h
  generalize va_A [(aY, .inr (7, [.ref aS, .ref rY_images, .ref rY_kept, .ref rY_law, .ref rY_reader, .ref rY_trial, .ref rY_stages, .ref rY_row, .ref rY_bestRow, .int Y_bestPeak, .int Y_bads, .int Y_noes, .int Y_fulls])), (aS, .inr (4, [.ref aN, .ref rS_text, .ref aP, .ref rS_child, .ref rS_turns])), (aN, .inl (cN, 8, .inl fN)), (aP, .inr (3, [.ref aPT, .ref aPF, .int P_count])), (aPT, .inl (cPT, 8, .inl fPT)), (aPF, .inl (cPF, 8, .inl fPF)), (aX, .inr (0, [.long X_place, .long X_speed, .int X_posture, .int X_since, .int X_height, .int X_ticks, .int X_way, .int X_strength, .int X_drops, .int X_greatestDrop, .long X_otherPlace, .long X_otherSpeed]))] s.heap.size = A at hq hA ⊢
  have iX0 : ∀ w ∈ u_ws RX0 TX0 12, w ∈ (Cond.code yX7_stepWishing cX7_stepWishing 4 (some .boolean) :: wsL_law) := fun w h => hsb w (bin_X0 w h)
  have iX4 : ∀ w ∈ u_ws RX4 TX4 5, w ∈ (Cond.code yX7_stepWishing cX7_stepWishing 4 (some .boolean) :: wsL_law) := fun w h => hsb w (bin_X4 w h)
  have iX7 : ∀ w ∈ u_ws RX7 TX7 13, w ∈ (Cond.code yX7_stepWishing cX7_stepWishing 4 (some .boolean) :: wsL_law) := fun w h => hsb w (bin_X7 w h)
  have lk0_ := hts _ (hsb _ wd_15)
  have lk1_ := hts _ (hsb _ wd_135)
  have lk2_ := hts _ (hsb _ wd_332)
  have lk3_ := hts _ (hsb _ wd_462)
  have hl := lv_entry ([.ref aY, .ref aX, .int p2, .int p3]) (n := 4) (Nat.le_of_ble_eq_true rfl)
  rw [lg_entry_eq]
  generalize (lg_sl ([.ref aY, .ref aX, .int p2, .int p3]) ++ List.replicate (4 - (lg_sl ([.ref aY, .ref aX, .int p2, .int p3])).length) Slot.unset).toArray = ls at hl ⊢
  have hl : lv_has ls 4 [(0, .ref aY), (1, .ref aX), (2, .int p2), (3, .int p3)] := hl
  refine lv_aload_n hx hb dX7_stepWishing_0 rfl (lv_at hl 1 rfl) ?_
  refine lv_aload_n hx hb dX7_stepWishing_1 rfl (lv_at hl 0 rfl) ?_
  refine kk_get (ci := 7) (v := .ref aS) (C := RX7) (T := TX7) (N := 13) hx hb hts iX7 hown hK hq 0 rfl rfl 0 (by decide) lk0_ rfl dX7_stepWishing_2 ?_
  refine kk_get (ci := 4) (v := .ref aN) (C := RX4) (T := TX4) (N := 5) hx hb hts iX4 hown hK hq 1 rfl rfl 0 (by decide) lk1_ rfl dX7_stepWishing_5 ?_
  refine lv_iload_n hx hb dX7_stepWishing_8 rfl (lv_at hl 2 rfl) ?_
  refine lv_aload_n hx hb dX7_stepWishing_9 rfl (lv_at hl 0 rfl) ?_
  refine kk_get (ci := 7) (v := .ref aS) (C := RX7) (T := TX7) (N := 13) hx hb hts iX7 hown hK hq 0 rfl rfl 0 (by decide) lk0_ rfl dX7_stepWishing_10 ?_
  refine kk_get (ci := 4) (v := .ref aP) (C := RX4) (T := TX4) (N := 5) hx hb hts iX4 hown hK hq 1 rfl rfl 2 (by decide) lk2_ rfl dX7_stepWishing_13 ?_
  refine lv_aload_n hx hb dX7_stepWishing_16 rfl (lv_at hl 1 rfl) ?_
  refine kk_get (ci := 0) (v := .int X_ticks) (C := RX0) (T := TX0) (N := 12) hx hb hts iX0 hown hK hq 6 rfl rfl 5 (by decide) lk3_ rfl dX7_stepWishing_17 ?_
  refine kk_Vi (As := [.int X_ticks]) (rest := [.int p2, .ref aN, .ref aX]) (wr := [(aY, .inr (7, [.ref aS, .ref rY_images, .ref rY_kept, .ref rY_law, .ref rY_reader, .ref rY_trial, .ref rY_stages, .ref rY_row, .ref rY_bestRow, .int Y_bestPeak, .int Y_bads, .int Y_noes, .int Y_fulls])), (aS, .inr (4, [.ref aN, .ref rS_text, .ref aP, .ref rS_child, .ref rS_turns])), (aN, .inl (cN, 8, .inl fN)), (aX, .inr (0, [.long X_place, .long X_speed, .int X_posture, .int X_since, .int X_height, .int X_ticks, .int X_way, .int X_strength, .int X_drops, .int X_greatestDrop, .long X_otherPlace, .long X_otherSpeed]))]) ⟨hx, hb, hml, hown, hts⟩ (c_X3_forceAt l G aP aPT aPF cPT cPF X_ticks P_count fPT fPF) (kk_cwV 1 hts hsb wd_463 wd_464 wd_465 wd_56 wd_466 rfl rfl hd_X3_forceAt ⟨Nat.le_of_ble_eq_true rfl, Nat.le_of_ble_eq_true rfl⟩) hA hK hq [3, 4, 5] [0, 1, 2, 6] [1, 2] rfl rfl rfl (by decide) (by decide) (by decide) 0 3 rfl rfl rfl rfl hl.1 rfl (Nat.le_of_ble_eq_true rfl) dX7_stepWishing_20 ⟨Nat.zero_le _, Nat.zero_le _⟩ (fun r_2 u_1 H locs h_3 hq => ?_)
  have er_2 := h_3
  have hq : kAt G A s [(aY, .inr (7, [.ref aS, .ref rY_images, .ref rY_kept, .ref rY_law, .ref rY_reader, .ref rY_trial, .ref rY_stages, .ref rY_row, .ref rY_bestRow, .int Y_bestPeak, .int Y_bads, .int Y_noes, .int Y_fulls])), (aS, .inr (4, [.ref aN, .ref rS_text, .ref aP, .ref rS_child, .ref rS_turns])), (aN, .inl (cN, 8, .inl fN)), (aX, .inr (0, [.long X_place, .long X_speed, .int X_posture, .int X_since, .int X_height, .int X_ticks, .int X_way, .int X_strength, .int X_drops, .int X_greatestDrop, .long X_otherPlace, .long X_otherSpeed])), (aP, .inr (3, [.ref aPT, .ref aPF, .int P_count])), (aPT, .inl (cPT, 8, .inl fPT)), (aPF, .inl (cPF, 8, .inl fPF))] H locs := hq
  refine lv_iload_n hx hb dX7_stepWishing_23 rfl (lv_at hl 3 rfl) ?_
  refine lv_iadd hx hb dX7_stepWishing_24 ?_
  refine kk_Vi (As := [.ref aN, .int p2, .int (r_2 + p3)]) (rest := []) (wr := [(aY, .inr (7, [.ref aS, .ref rY_images, .ref rY_kept, .ref rY_law, .ref rY_reader, .ref rY_trial, .ref rY_stages, .ref rY_row, .ref rY_bestRow, .int Y_bestPeak, .int Y_bads, .int Y_noes, .int Y_fulls])), (aS, .inr (4, [.ref aN, .ref rS_text, .ref aP, .ref rS_child, .ref rS_turns])), (aP, .inr (3, [.ref aPT, .ref aPF, .int P_count])), (aPT, .inl (cPT, 8, .inl fPT)), (aPF, .inl (cPF, 8, .inl fPF))]) ⟨hx, hb, hml, hown, hts⟩ (c_X0_step l G aX aN cN p2 (r_2 + p3) X_place X_speed X_posture X_since X_height X_ticks X_way X_strength X_drops X_greatestDrop X_otherPlace X_otherSpeed fN) (kk_cwV 3 hts hsb wd_467 wd_468 wd_469 wd_30 wd_470 rfl rfl hd_X0_step ⟨Nat.le_of_ble_eq_true rfl, Nat.le_of_ble_eq_true rfl⟩) hA hK hq [3, 2] [0, 1, 4, 5, 6] [0] rfl rfl rfl (by decide) (by decide) (by decide) 0 0 rfl rfl rfl rfl hl.1 rfl (Nat.le_of_ble_eq_true rfl) dX7_stepWishing_25 ⟨Nat.zero_le _, Nat.zero_le _⟩ (fun r_5 u_4 H locs h_6 hq => ?_)
  obtain ⟨er_5, eu_4, zr_5⟩ := h_6
  have hq : kAt G A s [(aY, .inr (7, [.ref aS, .ref rY_images, .ref rY_kept, .ref rY_law, .ref rY_reader, .ref rY_trial, .ref rY_stages, .ref rY_row, .ref rY_bestRow, .int Y_bestPeak, .int Y_bads, .int Y_noes, .int Y_fulls])), (aS, .inr (4, [.ref aN, .ref rS_text, .ref aP, .ref rS_child, .ref rS_turns])), (aP, .inr (3, [.ref aPT, .ref aPF, .int P_count])), (aPT, .inl (cPT, 8, .inl fPT)), (aPF, .inl (cPF, 8, .inl fPF)), (aX, .inr (0, [.long u_4.1, .long u_4.2.1, .int u_4.2.2.1, .int u_4.2.2.2.1, .int u_4.2.2.2.2.1, .int u_4.2.2.2.2.2.1, .int u_4.2.2.2.2.2.2.1, .int u_4.2.2.2.2.2.2.2.1, .int u_4.2.2.2.2.2.2.2.2.1, .int u_4.2.2.2.2.2.2.2.2.2.1, .long u_4.2.2.2.2.2.2.2.2.2.2.1, .long u_4.2.2.2.2.2.2.2.2.2.2.2])), (aN, .inl (cN, 8, .inl fN))] H locs := hq
  have hf : ((r_5, u_4.1, u_4.2.1, u_4.2.2.1, u_4.2.2.2.1, u_4.2.2.2.2.1, u_4.2.2.2.2.2.1, u_4.2.2.2.2.2.2.1, u_4.2.2.2.2.2.2.2.1, u_4.2.2.2.2.2.2.2.2.1, u_4.2.2.2.2.2.2.2.2.2.1, u_4.2.2.2.2.2.2.2.2.2.2.1, u_4.2.2.2.2.2.2.2.2.2.2.2) : Int32 × Int64 × Int64 × Int32 × Int32 × Int32 × Int32 × Int32 × Int32 × Int32 × Int32 × Int64 × Int64) = fX7_stepWishing p2 p3 fN P_count fPT fPF X_place X_speed X_posture X_since X_height X_ticks X_way X_strength X_drops X_greatestDrop X_otherPlace X_otherSpeed := by
    exact ((congrArg (fun (r_2 : Int32) => ((let r_5 : Int32 := (fX0_step p2 (r_2 + p3) X_place X_speed X_posture X_since X_height X_ticks X_way X_strength X_drops X_greatestDrop X_otherPlace X_otherSpeed fN).1
  let u_4 : Int64 × Int64 × Int32 × Int32 × Int32 × Int32 × Int32 × Int32 × Int32 × Int32 × Int64 × Int64 := (fX0_step p2 (r_2 + p3) X_place X_speed X_posture X_since X_height X_ticks X_way X_strength X_drops X_greatestDrop X_otherPlace X_otherSpeed fN).2
  (r_5, u_4.1, u_4.2.1, u_4.2.2.1, u_4.2.2.2.1, u_4.2.2.2.2.1, u_4.2.2.2.2.2.1, u_4.2.2.2.2.2.2.1, u_4.2.2.2.2.2.2.2.1, u_4.2.2.2.2.2.2.2.2.1, u_4.2.2.2.2.2.2.2.2.2.1, u_4.2.2.2.2.2.2.2.2.2.2.1, u_4.2.2.2.2.2.2.2.2.2.2.2)) : Int32 × Int64 × Int64 × Int32 × Int32 × Int32 × Int32 × Int32 × Int32 × Int32 × Int32 × Int64 × Int64)) er_2.symm).trans ((congrArg (fun (r_5 : Int32) => ((let u_4 : Int64 × Int64 × Int32 × Int32 × Int32 × Int32 × Int32 × Int32 × Int32 × Int32 × Int64 × Int64 := (fX0_step p2 (r_2 + p3) X_place X_speed X_posture X_since X_height X_ticks X_way X_strength X_drops X_greatestDrop X_otherPlace X_otherSpeed fN).2
  (r_5, u_4.1, u_4.2.1, u_4.2.2.1, u_4.2.2.2.1, u_4.2.2.2.2.1, u_4.2.2.2.2.2.1, u_4.2.2.2.2.2.2.1, u_4.2.2.2.2.2.2.2.1, u_4.2.2.2.2.2.2.2.2.1, u_4.2.2.2.2.2.2.2.2.2.1, u_4.2.2.2.2.2.2.2.2.2.2.1, u_4.2.2.2.2.2.2.2.2.2.2.2)) : Int32 × Int64 × Int64 × Int32 × Int32 × Int32 × Int32 × Int32 × Int32 × Int32 × Int32 × Int64 × Int64)) er_5.symm).trans ((congrArg (fun (u_4 : Int64 × Int64 × Int32 × Int32 × Int32 × Int32 × Int32 × Int32 × Int32 × Int32 × Int64 × Int64) => (((r_5, u_4.1, u_4.2.1, u_4.2.2.1, u_4.2.2.2.1, u_4.2.2.2.2.1, u_4.2.2.2.2.2.1, u_4.2.2.2.2.2.2.1, u_4.2.2.2.2.2.2.2.1, u_4.2.2.2.2.2.2.2.2.1, u_4.2.2.2.2.2.2.2.2.2.1, u_4.2.2.2.2.2.2.2.2.2.2.1, u_4.2.2.2.2.2.2.2.2.2.2.2)) : Int32 × Int64 × Int64 × Int32 × Int32 × Int32 × Int32 × Int32 × Int32 × Int32 × Int32 × Int64 × Int64)) eu_4.symm)))).symm
  have hf1 := congrArg Prod.fst hf
  have hf2 := congrArg Prod.snd hf
  have hz : (r_5 : Int32) = 0 ∨ (r_5 : Int32) = 1 := zr_5
  exact kk_ez hx hb hr hlocks hz hK hq [0, 1, 6, 2, 3, 4, 5] (u_4.1, u_4.2.1, u_4.2.2.1, u_4.2.2.2.1, u_4.2.2.2.2.1, u_4.2.2.2.2.2.1, u_4.2.2.2.2.2.2.1, u_4.2.2.2.2.2.2.2.1, u_4.2.2.2.2.2.2.2.2.1, u_4.2.2.2.2.2.2.2.2.2.1, u_4.2.2.2.2.2.2.2.2.2.2.1, u_4.2.2.2.2.2.2.2.2.2.2.2) rfl (by decide) dX7_stepWishing_28 ⟨hf1, hf2, hz⟩
theorem hd_X1_wishOf : yX1_wishOf.cls = RX1 ∧ yX1_wishOf.cls ≠ "java/lang/invoke/MethodHandle" ∧ yX1_wishOf.cls ≠ "java/lang/invoke/VarHandle" ∧ (parseMethodDescriptor yX1_wishOf.desc).map (fun d => d.parameters.length) = some 1 := by decide +kernel
theorem hd_X7_stepWishing : yX7_stepWishing.cls = RX7 ∧ yX7_stepWishing.cls ≠ "java/lang/invoke/MethodHandle" ∧ yX7_stepWishing.cls ≠ "java/lang/invoke/VarHandle" ∧ (parseMethodDescriptor yX7_stepWishing.desc).map (fun d => d.parameters.length) = some 3 := by decide +kernel
def fX7_stepByLaw (fN : Nat → Int32) (P_count : Int32) (fPT : Nat → Int32) (fPF : Nat → Int32) (L_count : Int32) (L_fault : Int32) (L_top : Int32) (fLP : Nat → Int32) (fLV : Nat → Int64) (X_place : Int64) (X_speed : Int64) (X_posture : Int32) (X_since : Int32) (X_height : Int32) (X_ticks : Int32) (X_way : Int32) (X_strength : Int32) (X_drops : Int32) (X_greatestDrop : Int32) (X_otherPlace : Int64) (X_otherSpeed : Int64) : Int32 × Int32 × (Nat → Int64) × Int64 × Int64 × Int32 × Int32 × Int32 × Int32 × Int32 × Int32 × Int32 × Int32 × Int64 × Int64 :=
  let r_2 : Int32 := (fX1_wishOf L_count L_fault L_top fLP fLV X_place X_speed X_posture X_since X_height X_ticks).1
  let u_1 : Int32 × (Nat → Int64) := (fX1_wishOf L_count L_fault L_top fLP fLV X_place X_speed X_posture X_since X_height X_ticks).2
  let r_5 : Int32 := (fX7_stepWishing r_2 0 fN P_count fPT fPF X_place X_speed X_posture X_since X_height X_ticks X_way X_strength X_drops X_greatestDrop X_otherPlace X_otherSpeed).1
  let u_4 : Int64 × Int64 × Int32 × Int32 × Int32 × Int32 × Int32 × Int32 × Int32 × Int32 × Int64 × Int64 := (fX7_stepWishing r_2 0 fN P_count fPT fPF X_place X_speed X_posture X_since X_height X_ticks X_way X_strength X_drops X_greatestDrop X_otherPlace X_otherSpeed).2
  (r_5, u_1.1, u_1.2, u_4.1, u_4.2.1, u_4.2.2.1, u_4.2.2.2.1, u_4.2.2.2.2.1, u_4.2.2.2.2.2.1, u_4.2.2.2.2.2.2.1, u_4.2.2.2.2.2.2.2.1, u_4.2.2.2.2.2.2.2.2.1, u_4.2.2.2.2.2.2.2.2.2.1, u_4.2.2.2.2.2.2.2.2.2.2.1, u_4.2.2.2.2.2.2.2.2.2.2.2)

set_option maxHeartbeats 4000000 in
set_option maxRecDepth 100000 in
theorem c_X7_stepByLaw (l : Launch) (G : va_G) (aY aS aN aP aPT aPF aL aLP aLV aX rY_images rY_kept rY_reader rY_trial rY_stages rY_row rY_bestRow rS_text rS_child rS_turns : Nat) (cN cPT cPF cLP cLV : ClassId) (Y_bestPeak : Int32) (Y_bads : Int32) (Y_noes : Int32) (Y_fulls : Int32) (fN : Nat → Int32) (P_count : Int32) (fPT : Nat → Int32) (fPF : Nat → Int32) (L_count : Int32) (L_fault : Int32) (L_top : Int32) (fLP : Nat → Int32) (fLV : Nat → Int64) (X_place : Int64) (X_speed : Int64) (X_posture : Int32) (X_since : Int32) (X_height : Int32) (X_ticks : Int32) (X_way : Int32) (X_strength : Int32) (X_drops : Int32) (X_greatestDrop : Int32) (X_otherPlace : Int64) (X_otherSpeed : Int64) (hc : L_count.toInt ≤ 60) : kCi l yX7_stepByLaw (Cond.code yX7_stepByLaw cX7_stepByLaw 2 (some .boolean) :: wsL_law) ({ frames := 5, cells := 0, slots := 0, locals := 129 }) G [(cN, .int), (cPT, .int), (cPF, .int), (cLP, .int), (cLV, .long)] [.ref aY, .ref aX] [(aY, .inr (7, [.ref aS, .ref rY_images, .ref rY_kept, .ref aL, .ref rY_reader, .ref rY_trial, .ref rY_stages, .ref rY_row, .ref rY_bestRow, .int Y_bestPeak, .int Y_bads, .int Y_noes, .int Y_fulls])), (aS, .inr (4, [.ref aN, .ref rS_text, .ref aP, .ref rS_child, .ref rS_turns])), (aN, .inl (cN, 8, .inl fN)), (aP, .inr (3, [.ref aPT, .ref aPF, .int P_count])), (aPT, .inl (cPT, 8, .inl fPT)), (aPF, .inl (cPF, 8, .inl fPF)), (aL, .inr (1, [.ref aLP, .int L_count, .int L_fault, .ref aLV, .int L_top])), (aLP, .inl (cLP, 60, .inl fLP)), (aLV, .inl (cLV, 60, .inr (.inl fLV))), (aX, .inr (0, [.long X_place, .long X_speed, .int X_posture, .int X_since, .int X_height, .int X_ticks, .int X_way, .int X_strength, .int X_drops, .int X_greatestDrop, .long X_otherPlace, .long X_otherSpeed]))] (fun (r : Int32) (u : Int32 × (Nat → Int64) × Int64 × Int64 × Int32 × Int32 × Int32 × Int32 × Int32 × Int32 × Int32 × Int32 × Int64 × Int64) => r = (fX7_stepByLaw fN P_count fPT fPF L_count L_fault L_top fLP fLV X_place X_speed X_posture X_since X_height X_ticks X_way X_strength X_drops X_greatestDrop X_otherPlace X_otherSpeed).1 ∧ u = (fX7_stepByLaw fN P_count fPT fPF L_count L_fault L_top fLP fLV X_place X_speed X_posture X_since X_height X_ticks X_way X_strength X_drops X_greatestDrop X_otherPlace X_otherSpeed).2 ∧ (r = 0 ∨ r = 1)) (fun (u : Int32 × (Nat → Int64) × Int64 × Int64 × Int32 × Int32 × Int32 × Int32 × Int32 × Int32 × Int32 × Int32 × Int64 × Int64) => [(aY, .inr (7, [.ref aS, .ref rY_images, .ref rY_kept, .ref aL, .ref rY_reader, .ref rY_trial, .ref rY_stages, .ref rY_row, .ref rY_bestRow, .int Y_bestPeak, .int Y_bads, .int Y_noes, .int Y_fulls])), (aS, .inr (4, [.ref aN, .ref rS_text, .ref aP, .ref rS_child, .ref rS_turns])), (aN, .inl (cN, 8, .inl fN)), (aP, .inr (3, [.ref aPT, .ref aPF, .int P_count])), (aPT, .inl (cPT, 8, .inl fPT)), (aPF, .inl (cPF, 8, .inl fPF)), (aL, .inr (1, [.ref aLP, .int L_count, .int L_fault, .ref aLV, .int u.1])), (aLP, .inl (cLP, 60, .inl fLP)), (aLV, .inl (cLV, 60, .inr (.inl u.2.1))), (aX, .inr (0, [.long u.2.2.1, .long u.2.2.2.1, .int u.2.2.2.2.1, .int u.2.2.2.2.2.1, .int u.2.2.2.2.2.2.1, .int u.2.2.2.2.2.2.2.1, .int u.2.2.2.2.2.2.2.2.1, .int u.2.2.2.2.2.2.2.2.2.1, .int u.2.2.2.2.2.2.2.2.2.2.1, .int u.2.2.2.2.2.2.2.2.2.2.2.1, .long u.2.2.2.2.2.2.2.2.2.2.2.2.1, .long u.2.2.2.2.2.2.2.2.2.2.2.2.2]))]) := by
  intro sz
  refine Met.ofW (cc := cX7_stepByLaw) (maxL := 2) (ret := (some .boolean)) (by decide) rfl ?_
  intro p e s m args below meth c s₁ B hml hv
  obtain ⟨rfl, hv⟩ := hv
  obtain ⟨rfl, hK, hq, hA⟩ := kk_begin hv
  have hx := B.exec
  have hb := B.bytes
  have hr := B.returns
  have hts := atoms_spec (ws := (Cond.code yX7_stepByLaw cX7_stepByLaw 2 (some .boolean) :: wsL_law)) B.pre
  have hown : s.vm.findClass RX7 = some m.cls := findClass_of_methodNamed B.named
  have hlocks := B.notSynchronized
  have hsb : ∀ w ∈ wsL_law, w ∈ (Cond.code yX7_stepByLaw cX7_stepByLaw 2 (some .boolean) :: wsL_law) := fun _ h => List.mem_cons_of_mem _ h
  generalize va_A [(aY, .inr (7, [.ref aS, .ref rY_images, .ref rY_kept, .ref aL, .ref rY_reader, .ref rY_trial, .ref rY_stages, .ref rY_row, .ref rY_bestRow, .int Y_bestPeak, .int Y_bads, .int Y_noes, .int Y_fulls])), (aS, .inr (4, [.ref aN, .ref rS_text, .ref aP, .ref rS_child, .ref rS_turns])), (aN, .inl (cN, 8, .inl fN)), (aP, .inr (3, [.ref aPT, .ref aPF, .int P_count])), (aPT, .inl (cPT, 8, .inl fPT)), (aPF, .inl (cPF, 8, .inl fPF)), (aL, .inr (1, [.ref aLP, .int L_count, .int L_fault, .ref aLV, .int L_top])), (aLP, .inl (cLP, 60, .inl fLP)), (aLV, .inl (cLV, 60, .inr (.inl fLV))), (aX, .inr (0, [.long X_place, .long X_speed, .int X_posture, .int X_since, .int X_height, .int X_ticks, .int X_way, .int X_strength, .int X_drops, .int X_greatestDrop, .long X_otherPlace, .long X_otherSpeed]))] s.heap.size = A at hq hA ⊢
  have iX7 : ∀ w ∈ u_ws RX7 TX7 13, w ∈ (Cond.code yX7_stepByLaw cX7_stepByLaw 2 (some .boolean) :: wsL_law) := fun w h => hsb w (bin_X7 w h)
  have lk0_ := hts _ (hsb _ wd_22)
  have hl := lv_entry ([.ref aY, .ref aX]) (n := 2) (Nat.le_of_ble_eq_true rfl)
  rw [lg_entry_eq]
  generalize (lg_sl ([.ref aY, .ref aX]) ++ List.replicate (2 - (lg_sl ([.ref aY, .ref aX])).length) Slot.unset).toArray = ls at hl ⊢
  have hl : lv_has ls 2 [(0, .ref aY), (1, .ref aX)] := hl
  refine lv_aload_n hx hb dX7_stepByLaw_0 rfl (lv_at hl 0 rfl) ?_
  refine lv_aload_n hx hb dX7_stepByLaw_1 rfl (lv_at hl 1 rfl) ?_
  refine lv_aload_n hx hb dX7_stepByLaw_2 rfl (lv_at hl 0 rfl) ?_
  refine kk_get (ci := 7) (v := .ref aL) (C := RX7) (T := TX7) (N := 13) hx hb hts iX7 hown hK hq 0 rfl rfl 3 (by decide) lk0_ rfl dX7_stepByLaw_3 ?_
  refine lv_aload_n hx hb dX7_stepByLaw_6 rfl (lv_at hl 1 rfl) ?_
  refine kk_Vi (As := [.ref aX]) (rest := [.ref aX, .ref aY]) (wr := [(aY, .inr (7, [.ref aS, .ref rY_images, .ref rY_kept, .ref aL, .ref rY_reader, .ref rY_trial, .ref rY_stages, .ref rY_row, .ref rY_bestRow, .int Y_bestPeak, .int Y_bads, .int Y_noes, .int Y_fulls])), (aS, .inr (4, [.ref aN, .ref rS_text, .ref aP, .ref rS_child, .ref rS_turns])), (aN, .inl (cN, 8, .inl fN)), (aP, .inr (3, [.ref aPT, .ref aPF, .int P_count])), (aPT, .inl (cPT, 8, .inl fPT)), (aPF, .inl (cPF, 8, .inl fPF))]) ⟨hx, hb, hml, hown, hts⟩ (c_X1_wishOf l G aL aLP aLV aX cLP cLV L_count L_fault L_top fLP fLV X_place X_speed X_posture X_since X_height X_ticks X_way X_strength X_drops X_greatestDrop X_otherPlace X_otherSpeed (by assumption)) (kk_cwV 1 hts hsb wd_416 wd_417 wd_418 wd_21 wd_419 rfl rfl hd_X1_wishOf ⟨Nat.le_of_ble_eq_true rfl, Nat.le_of_ble_eq_true rfl⟩) hA hK hq [6, 7, 8, 9] [0, 1, 2, 3, 4, 5] [3, 4] rfl rfl rfl (by decide) (by decide) (by decide) 0 1 rfl rfl rfl rfl hl.1 rfl (Nat.le_of_ble_eq_true rfl) dX7_stepByLaw_7 ⟨Nat.zero_le _, Nat.zero_le _⟩ (fun r_2 u_1 H locs h_3 hq => ?_)
  obtain ⟨er_2, eu_1⟩ := h_3
  have hq : kAt G A s [(aY, .inr (7, [.ref aS, .ref rY_images, .ref rY_kept, .ref aL, .ref rY_reader, .ref rY_trial, .ref rY_stages, .ref rY_row, .ref rY_bestRow, .int Y_bestPeak, .int Y_bads, .int Y_noes, .int Y_fulls])), (aS, .inr (4, [.ref aN, .ref rS_text, .ref aP, .ref rS_child, .ref rS_turns])), (aN, .inl (cN, 8, .inl fN)), (aP, .inr (3, [.ref aPT, .ref aPF, .int P_count])), (aPT, .inl (cPT, 8, .inl fPT)), (aPF, .inl (cPF, 8, .inl fPF)), (aL, .inr (1, [.ref aLP, .int L_count, .int L_fault, .ref aLV, .int u_1.1])), (aLP, .inl (cLP, 60, .inl fLP)), (aLV, .inl (cLV, 60, .inr (.inl u_1.2))), (aX, .inr (0, [.long X_place, .long X_speed, .int X_posture, .int X_since, .int X_height, .int X_ticks, .int X_way, .int X_strength, .int X_drops, .int X_greatestDrop, .long X_otherPlace, .long X_otherSpeed]))] H locs := hq
  refine lv_iconst (v := 0) hx hb dX7_stepByLaw_10 (by decide) ?_
  refine kk_Vi (As := [.ref aX, .int r_2, .int 0]) (rest := []) (wr := [(aL, .inr (1, [.ref aLP, .int L_count, .int L_fault, .ref aLV, .int u_1.1])), (aLP, .inl (cLP, 60, .inl fLP)), (aLV, .inl (cLV, 60, .inr (.inl u_1.2)))]) ⟨hx, hb, hml, hown, hts⟩ (c_X7_stepWishing l G aY aS aN aP aPT aPF aX rY_images rY_kept aL rY_reader rY_trial rY_stages rY_row rY_bestRow rS_text rS_child rS_turns cN cPT cPF r_2 0 Y_bestPeak Y_bads Y_noes Y_fulls fN P_count fPT fPF X_place X_speed X_posture X_since X_height X_ticks X_way X_strength X_drops X_greatestDrop X_otherPlace X_otherSpeed) (kk_cwV 3 hts hsb wd_458 wd_459 wd_460 wd_2 wd_461 rfl rfl hd_X7_stepWishing ⟨Nat.le_of_ble_eq_true rfl, Nat.le_of_ble_eq_true rfl⟩) hA hK hq [0, 1, 2, 3, 4, 5, 9] [6, 7, 8] [0, 1, 2] rfl rfl rfl (by decide) (by decide) (by decide) 0 7 rfl rfl rfl rfl hl.1 rfl (Nat.le_of_ble_eq_true rfl) dX7_stepByLaw_11 ⟨Nat.zero_le _, Nat.zero_le _⟩ (fun r_5 u_4 H locs h_6 hq => ?_)
  obtain ⟨er_5, eu_4, zr_5⟩ := h_6
  have hq : kAt G A s [(aL, .inr (1, [.ref aLP, .int L_count, .int L_fault, .ref aLV, .int u_1.1])), (aLP, .inl (cLP, 60, .inl fLP)), (aLV, .inl (cLV, 60, .inr (.inl u_1.2))), (aY, .inr (7, [.ref aS, .ref rY_images, .ref rY_kept, .ref aL, .ref rY_reader, .ref rY_trial, .ref rY_stages, .ref rY_row, .ref rY_bestRow, .int Y_bestPeak, .int Y_bads, .int Y_noes, .int Y_fulls])), (aS, .inr (4, [.ref aN, .ref rS_text, .ref aP, .ref rS_child, .ref rS_turns])), (aN, .inl (cN, 8, .inl fN)), (aP, .inr (3, [.ref aPT, .ref aPF, .int P_count])), (aPT, .inl (cPT, 8, .inl fPT)), (aPF, .inl (cPF, 8, .inl fPF)), (aX, .inr (0, [.long u_4.1, .long u_4.2.1, .int u_4.2.2.1, .int u_4.2.2.2.1, .int u_4.2.2.2.2.1, .int u_4.2.2.2.2.2.1, .int u_4.2.2.2.2.2.2.1, .int u_4.2.2.2.2.2.2.2.1, .int u_4.2.2.2.2.2.2.2.2.1, .int u_4.2.2.2.2.2.2.2.2.2.1, .long u_4.2.2.2.2.2.2.2.2.2.2.1, .long u_4.2.2.2.2.2.2.2.2.2.2.2]))] H locs := hq
  have hf : ((r_5, u_1.1, u_1.2, u_4.1, u_4.2.1, u_4.2.2.1, u_4.2.2.2.1, u_4.2.2.2.2.1, u_4.2.2.2.2.2.1, u_4.2.2.2.2.2.2.1, u_4.2.2.2.2.2.2.2.1, u_4.2.2.2.2.2.2.2.2.1, u_4.2.2.2.2.2.2.2.2.2.1, u_4.2.2.2.2.2.2.2.2.2.2.1, u_4.2.2.2.2.2.2.2.2.2.2.2) : Int32 × Int32 × (Nat → Int64) × Int64 × Int64 × Int32 × Int32 × Int32 × Int32 × Int32 × Int32 × Int32 × Int32 × Int64 × Int64) = fX7_stepByLaw fN P_count fPT fPF L_count L_fault L_top fLP fLV X_place X_speed X_posture X_since X_height X_ticks X_way X_strength X_drops X_greatestDrop X_otherPlace X_otherSpeed := by
    exact ((congrArg (fun (r_2 : Int32) => ((let u_1 : Int32 × (Nat → Int64) := (fX1_wishOf L_count L_fault L_top fLP fLV X_place X_speed X_posture X_since X_height X_ticks).2
  let r_5 : Int32 := (fX7_stepWishing r_2 0 fN P_count fPT fPF X_place X_speed X_posture X_since X_height X_ticks X_way X_strength X_drops X_greatestDrop X_otherPlace X_otherSpeed).1
  let u_4 : Int64 × Int64 × Int32 × Int32 × Int32 × Int32 × Int32 × Int32 × Int32 × Int32 × Int64 × Int64 := (fX7_stepWishing r_2 0 fN P_count fPT fPF X_place X_speed X_posture X_since X_height X_ticks X_way X_strength X_drops X_greatestDrop X_otherPlace X_otherSpeed).2
  (r_5, u_1.1, u_1.2, u_4.1, u_4.2.1, u_4.2.2.1, u_4.2.2.2.1, u_4.2.2.2.2.1, u_4.2.2.2.2.2.1, u_4.2.2.2.2.2.2.1, u_4.2.2.2.2.2.2.2.1, u_4.2.2.2.2.2.2.2.2.1, u_4.2.2.2.2.2.2.2.2.2.1, u_4.2.2.2.2.2.2.2.2.2.2.1, u_4.2.2.2.2.2.2.2.2.2.2.2)) : Int32 × Int32 × (Nat → Int64) × Int64 × Int64 × Int32 × Int32 × Int32 × Int32 × Int32 × Int32 × Int32 × Int32 × Int64 × Int64)) er_2.symm).trans ((congrArg (fun (u_1 : Int32 × (Nat → Int64)) => ((let r_5 : Int32 := (fX7_stepWishing r_2 0 fN P_count fPT fPF X_place X_speed X_posture X_since X_height X_ticks X_way X_strength X_drops X_greatestDrop X_otherPlace X_otherSpeed).1
  let u_4 : Int64 × Int64 × Int32 × Int32 × Int32 × Int32 × Int32 × Int32 × Int32 × Int32 × Int64 × Int64 := (fX7_stepWishing r_2 0 fN P_count fPT fPF X_place X_speed X_posture X_since X_height X_ticks X_way X_strength X_drops X_greatestDrop X_otherPlace X_otherSpeed).2
  (r_5, u_1.1, u_1.2, u_4.1, u_4.2.1, u_4.2.2.1, u_4.2.2.2.1, u_4.2.2.2.2.1, u_4.2.2.2.2.2.1, u_4.2.2.2.2.2.2.1, u_4.2.2.2.2.2.2.2.1, u_4.2.2.2.2.2.2.2.2.1, u_4.2.2.2.2.2.2.2.2.2.1, u_4.2.2.2.2.2.2.2.2.2.2.1, u_4.2.2.2.2.2.2.2.2.2.2.2)) : Int32 × Int32 × (Nat → Int64) × Int64 × Int64 × Int32 × Int32 × Int32 × Int32 × Int32 × Int32 × Int32 × Int32 × Int64 × Int64)) eu_1.symm).trans ((congrArg (fun (r_5 : Int32) => ((let u_4 : Int64 × Int64 × Int32 × Int32 × Int32 × Int32 × Int32 × Int32 × Int32 × Int32 × Int64 × Int64 := (fX7_stepWishing r_2 0 fN P_count fPT fPF X_place X_speed X_posture X_since X_height X_ticks X_way X_strength X_drops X_greatestDrop X_otherPlace X_otherSpeed).2
  (r_5, u_1.1, u_1.2, u_4.1, u_4.2.1, u_4.2.2.1, u_4.2.2.2.1, u_4.2.2.2.2.1, u_4.2.2.2.2.2.1, u_4.2.2.2.2.2.2.1, u_4.2.2.2.2.2.2.2.1, u_4.2.2.2.2.2.2.2.2.1, u_4.2.2.2.2.2.2.2.2.2.1, u_4.2.2.2.2.2.2.2.2.2.2.1, u_4.2.2.2.2.2.2.2.2.2.2.2)) : Int32 × Int32 × (Nat → Int64) × Int64 × Int64 × Int32 × Int32 × Int32 × Int32 × Int32 × Int32 × Int32 × Int32 × Int64 × Int64)) er_5.symm).trans ((congrArg (fun (u_4 : Int64 × Int64 × Int32 × Int32 × Int32 × Int32 × Int32 × Int32 × Int32 × Int32 × Int64 × Int64) => (((r_5, u_1.1, u_1.2, u_4.1, u_4.2.1, u_4.2.2.1, u_4.2.2.2.1, u_4.2.2.2.2.1, u_4.2.2.2.2.2.1, u_4.2.2.2.2.2.2.1, u_4.2.2.2.2.2.2.2.1, u_4.2.2.2.2.2.2.2.2.1, u_4.2.2.2.2.2.2.2.2.2.1, u_4.2.2.2.2.2.2.2.2.2.2.1, u_4.2.2.2.2.2.2.2.2.2.2.2)) : Int32 × Int32 × (Nat → Int64) × Int64 × Int64 × Int32 × Int32 × Int32 × Int32 × Int32 × Int32 × Int32 × Int32 × Int64 × Int64)) eu_4.symm))))).symm
  have hf1 := congrArg Prod.fst hf
  have hf2 := congrArg Prod.snd hf
  have hz : (r_5 : Int32) = 0 ∨ (r_5 : Int32) = 1 := zr_5
  exact kk_ez hx hb hr hlocks hz hK hq [3, 4, 5, 6, 7, 8, 0, 1, 2, 9] (u_1.1, u_1.2, u_4.1, u_4.2.1, u_4.2.2.1, u_4.2.2.2.1, u_4.2.2.2.2.1, u_4.2.2.2.2.2.1, u_4.2.2.2.2.2.2.1, u_4.2.2.2.2.2.2.2.1, u_4.2.2.2.2.2.2.2.2.1, u_4.2.2.2.2.2.2.2.2.2.1, u_4.2.2.2.2.2.2.2.2.2.2.1, u_4.2.2.2.2.2.2.2.2.2.2.2) rfl (by decide) dX7_stepByLaw_14 ⟨hf1, hf2, hz⟩
