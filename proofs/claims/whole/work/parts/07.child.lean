def fX0_divided (p1 : Int64) (p2 : Int64) : Int64 :=
  let z0_2 : Int64 := if p2 = 0 then 0 else p1 / p2
  z0_2

set_option maxHeartbeats 4000000 in
set_option maxRecDepth 100000 in
theorem c_X0_divided (l : Launch) (G : va_G) (p1 : Int64) (p2 : Int64) : kCl l yX0_divided (Cond.code yX0_divided cX0_divided 4 (some .long) :: wsL_law) ({ frames := 0, cells := 0, slots := 0, locals := 0 }) G [] [.long p1, .long p2] [] (fun (r : Int64) (_ : Unit) => r = fX0_divided p1 p2) (fun (_ : Unit) => []) := by
  intro sz
  refine Met.ofW (cc := cX0_divided) (maxL := 4) (ret := (some .long)) (by decide) rfl ?_
  intro p e s m args below meth c s₁ B hml hv
  obtain ⟨rfl, hv⟩ := hv
  obtain ⟨rfl, hK, hq, hA⟩ := kk_begin hv
  have hx := B.exec
  have hb := B.bytes
  have hr := B.returns
  have hts := atoms_spec (ws := (Cond.code yX0_divided cX0_divided 4 (some .long) :: wsL_law)) B.pre
  have hown : s.vm.findClass RX0 = some m.cls := findClass_of_methodNamed B.named
  have hlocks := B.notSynchronized
  have hsb : ∀ w ∈ wsL_law, w ∈ (Cond.code yX0_divided cX0_divided 4 (some .long) :: wsL_law) := fun _ h => List.mem_cons_of_mem _ h
  generalize va_A [] s.heap.size = A at hq hA ⊢
  have hl := lv_entry ([.long p1, .long p2]) (n := 4) (Nat.le_of_ble_eq_true rfl)
  rw [lg_entry_eq]
  generalize (lg_sl ([.long p1, .long p2]) ++ List.replicate (4 - (lg_sl ([.long p1, .long p2])).length) Slot.unset).toArray = ls at hl ⊢
  have hl : lv_has ls 4 [(0, .long p1), (2, .long p2)] := hl
  refine lv_lload_n hx hb dX0_divided_0 rfl (lv_at hl 1 rfl) ?_
  refine lv_lconst (v := 0) hx hb dX0_divided_1 (by decide) ?_
  refine kk_join1 (fun (z0_2 : Int64) (H : Heap) (locs : List Loc) (ls : Array Slot) => z0_2 = (if p2 = 0 then 0 else p1 / p2) ∧ lv_has ls 4 [(0, .long p1), (2, .long p2)] ∧ kAt G A s [] H locs) 13 (fun z0_2 => [.long z0_2]) (fun z0_2 H locs ls hv => ?_) (fun J_3 => ?_)
  · skip
    obtain ⟨ez0_2, hl, hq⟩ := hv
    have hf : (z0_2 : Int64) = fX0_divided p1 p2 := by
      exact ((congrArg (fun (z0_2 : Int64) => ((z0_2) : Int64)) ez0_2.symm)).symm
    exact kk_el hx hb hr hlocks hK hq [] () rfl (by decide) dX0_divided_13 hf
  · skip
    refine kk_lc_ne (tgt := 10) hx hb dX0_divided_2 dX0_divided_3 (by decide) (fun c_1 => ?_) (fun c_1 => ?_)
    · skip
      refine lv_lload_n hx hb dX0_divided_10 rfl (lv_at hl 0 rfl) ?_
      refine lv_lload_n hx hb dX0_divided_11 rfl (lv_at hl 1 rfl) ?_
      refine lv_ldiv hx hb dX0_divided_12 c_1 ?_
      exact J_3 (p1 / p2) _ _ _ ⟨(if_neg c_1).symm, lv_sub hl [0, 1] rfl, hq⟩
    · skip
      refine lv_lconst (v := 0) hx hb dX0_divided_6 (by decide) ?_
      refine lv_goto (tgt := 13) hx hb dX0_divided_7 (by decide) ?_
      exact J_3 0 _ _ _ ⟨(if_pos c_1).symm, lv_sub hl [0, 1] rfl, hq⟩
def fX0_length (C_posture : Int32) (fN : Nat → Int32) : Int64 :=
  ((fN 0).toInt64) - (((fN 3).toInt64) * C_posture.toInt64)

set_option maxHeartbeats 4000000 in
set_option maxRecDepth 100000 in
theorem c_X0_length (l : Launch) (G : va_G) (aC aN : Nat) (cN : ClassId) (C_place : Int64) (C_speed : Int64) (C_posture : Int32) (C_since : Int32) (C_height : Int32) (C_ticks : Int32) (C_way : Int32) (C_strength : Int32) (C_drops : Int32) (C_greatestDrop : Int32) (C_otherPlace : Int64) (C_otherSpeed : Int64) (fN : Nat → Int32) : kCl l yX0_length (Cond.code yX0_length cX0_length 2 (some .long) :: wsL_law) ({ frames := 0, cells := 0, slots := 0, locals := 0 }) G [(cN, .int)] [.ref aC, .ref aN] [(aC, .inr (0, [.long C_place, .long C_speed, .int C_posture, .int C_since, .int C_height, .int C_ticks, .int C_way, .int C_strength, .int C_drops, .int C_greatestDrop, .long C_otherPlace, .long C_otherSpeed])), (aN, .inl (cN, 8, .inl fN))] (fun (r : Int64) (_ : Unit) => r = fX0_length C_posture fN) (fun (_ : Unit) => [(aC, .inr (0, [.long C_place, .long C_speed, .int C_posture, .int C_since, .int C_height, .int C_ticks, .int C_way, .int C_strength, .int C_drops, .int C_greatestDrop, .long C_otherPlace, .long C_otherSpeed])), (aN, .inl (cN, 8, .inl fN))]) := by
  intro sz
  refine Met.ofW (cc := cX0_length) (maxL := 2) (ret := (some .long)) (by decide) rfl ?_
  intro p e s m args below meth c s₁ B hml hv
  obtain ⟨rfl, hv⟩ := hv
  obtain ⟨rfl, hK, hq, hA⟩ := kk_begin hv
  have hx := B.exec
  have hb := B.bytes
  have hr := B.returns
  have hts := atoms_spec (ws := (Cond.code yX0_length cX0_length 2 (some .long) :: wsL_law)) B.pre
  have hown : s.vm.findClass RX0 = some m.cls := findClass_of_methodNamed B.named
  have hlocks := B.notSynchronized
  have hsb : ∀ w ∈ wsL_law, w ∈ (Cond.code yX0_length cX0_length 2 (some .long) :: wsL_law) := fun _ h => List.mem_cons_of_mem _ h
  generalize va_A [(aC, .inr (0, [.long C_place, .long C_speed, .int C_posture, .int C_since, .int C_height, .int C_ticks, .int C_way, .int C_strength, .int C_drops, .int C_greatestDrop, .long C_otherPlace, .long C_otherSpeed])), (aN, .inl (cN, 8, .inl fN))] s.heap.size = A at hq hA ⊢
  have iX0 : ∀ w ∈ u_ws RX0 TX0 12, w ∈ (Cond.code yX0_length cX0_length 2 (some .long) :: wsL_law) := fun w h => hsb w (bin_X0 w h)
  have lk0_ := hts _ (hsb _ wd_80)
  have hl := lv_entry ([.ref aC, .ref aN]) (n := 2) (Nat.le_of_ble_eq_true rfl)
  rw [lg_entry_eq]
  generalize (lg_sl ([.ref aC, .ref aN]) ++ List.replicate (2 - (lg_sl ([.ref aC, .ref aN])).length) Slot.unset).toArray = ls at hl ⊢
  have hl : lv_has ls 2 [(0, .ref aC), (1, .ref aN)] := hl
  refine lv_aload_n hx hb dX0_length_0 rfl (lv_at hl 1 rfl) ?_
  refine lv_iconst (v := 0) hx hb dX0_length_1 (by decide) ?_
  refine kk_iald hx hb hK hq 1 0 rfl rfl 0 rfl (by decide) (by decide) dX0_length_2 ?_
  refine lv_i2l hx hb dX0_length_3 rfl ?_
  refine lv_aload_n hx hb dX0_length_4 rfl (lv_at hl 1 rfl) ?_
  refine lv_iconst (v := 3) hx hb dX0_length_5 (by decide) ?_
  refine kk_iald hx hb hK hq 1 0 rfl rfl 3 rfl (by decide) (by decide) dX0_length_6 ?_
  refine lv_i2l hx hb dX0_length_7 rfl ?_
  refine lv_aload_n hx hb dX0_length_8 rfl (lv_at hl 0 rfl) ?_
  refine kk_get (ci := 0) (v := .int C_posture) (C := RX0) (T := TX0) (N := 12) hx hb hts iX0 hown hK hq 0 rfl rfl 2 (by decide) lk0_ rfl dX0_length_9 ?_
  refine lv_i2l hx hb dX0_length_12 rfl ?_
  refine lv_lmul hx hb dX0_length_13 ?_
  refine lv_lsub hx hb dX0_length_14 ?_
  have hf : (((fN 0).toInt64) - (((fN 3).toInt64) * C_posture.toInt64) : Int64) = fX0_length C_posture fN := by
    exact rfl
  exact kk_el hx hb hr hlocks hK hq [0, 1] () rfl (by decide) dX0_length_15 hf
def fX0_become (O_place : Int64) (O_speed : Int64) (O_posture : Int32) (O_since : Int32) (O_height : Int32) (O_ticks : Int32) (O_way : Int32) (O_strength : Int32) (O_drops : Int32) (O_greatestDrop : Int32) (O_otherPlace : Int64) (O_otherSpeed : Int64) : Int64 × Int64 × Int32 × Int32 × Int32 × Int32 × Int32 × Int32 × Int32 × Int32 × Int64 × Int64 :=
  (O_place, O_speed, O_posture, O_since, O_height, O_ticks, O_way, O_strength, O_drops, O_greatestDrop, O_otherPlace, O_otherSpeed)

set_option maxHeartbeats 4000000 in
set_option maxRecDepth 100000 in
theorem c_X0_become (l : Launch) (G : va_G) (aC aO : Nat) (C_place : Int64) (C_speed : Int64) (C_posture : Int32) (C_since : Int32) (C_height : Int32) (C_ticks : Int32) (C_way : Int32) (C_strength : Int32) (C_drops : Int32) (C_greatestDrop : Int32) (C_otherPlace : Int64) (C_otherSpeed : Int64) (O_place : Int64) (O_speed : Int64) (O_posture : Int32) (O_since : Int32) (O_height : Int32) (O_ticks : Int32) (O_way : Int32) (O_strength : Int32) (O_drops : Int32) (O_greatestDrop : Int32) (O_otherPlace : Int64) (O_otherSpeed : Int64) : kCv l yX0_become (Cond.code yX0_become cX0_become 2 none :: wsL_law) ({ frames := 0, cells := 0, slots := 0, locals := 0 }) G [] [.ref aC, .ref aO] [(aC, .inr (0, [.long C_place, .long C_speed, .int C_posture, .int C_since, .int C_height, .int C_ticks, .int C_way, .int C_strength, .int C_drops, .int C_greatestDrop, .long C_otherPlace, .long C_otherSpeed])), (aO, .inr (0, [.long O_place, .long O_speed, .int O_posture, .int O_since, .int O_height, .int O_ticks, .int O_way, .int O_strength, .int O_drops, .int O_greatestDrop, .long O_otherPlace, .long O_otherSpeed]))] (fun (u : Int64 × Int64 × Int32 × Int32 × Int32 × Int32 × Int32 × Int32 × Int32 × Int32 × Int64 × Int64) => u = fX0_become O_place O_speed O_posture O_since O_height O_ticks O_way O_strength O_drops O_greatestDrop O_otherPlace O_otherSpeed) (fun (u : Int64 × Int64 × Int32 × Int32 × Int32 × Int32 × Int32 × Int32 × Int32 × Int32 × Int64 × Int64) => [(aC, .inr (0, [.long u.1, .long u.2.1, .int u.2.2.1, .int u.2.2.2.1, .int u.2.2.2.2.1, .int u.2.2.2.2.2.1, .int u.2.2.2.2.2.2.1, .int u.2.2.2.2.2.2.2.1, .int u.2.2.2.2.2.2.2.2.1, .int u.2.2.2.2.2.2.2.2.2.1, .long u.2.2.2.2.2.2.2.2.2.2.1, .long u.2.2.2.2.2.2.2.2.2.2.2])), (aO, .inr (0, [.long O_place, .long O_speed, .int O_posture, .int O_since, .int O_height, .int O_ticks, .int O_way, .int O_strength, .int O_drops, .int O_greatestDrop, .long O_otherPlace, .long O_otherSpeed]))]) := by
  intro sz
  refine Met.ofW (cc := cX0_become) (maxL := 2) (ret := none) (by decide) rfl ?_
  intro p e s m args below meth c s₁ B hml hv
  obtain ⟨rfl, hv⟩ := hv
  obtain ⟨rfl, hK, hq, hA⟩ := kk_begin hv
  have hx := B.exec
  have hb := B.bytes
  have hr := B.returns
  have hts := atoms_spec (ws := (Cond.code yX0_become cX0_become 2 none :: wsL_law)) B.pre
  have hown : s.vm.findClass RX0 = some m.cls := findClass_of_methodNamed B.named
  have hlocks := B.notSynchronized
  have hsb : ∀ w ∈ wsL_law, w ∈ (Cond.code yX0_become cX0_become 2 none :: wsL_law) := fun _ h => List.mem_cons_of_mem _ h
  generalize va_A [(aC, .inr (0, [.long C_place, .long C_speed, .int C_posture, .int C_since, .int C_height, .int C_ticks, .int C_way, .int C_strength, .int C_drops, .int C_greatestDrop, .long C_otherPlace, .long C_otherSpeed])), (aO, .inr (0, [.long O_place, .long O_speed, .int O_posture, .int O_since, .int O_height, .int O_ticks, .int O_way, .int O_strength, .int O_drops, .int O_greatestDrop, .long O_otherPlace, .long O_otherSpeed]))] s.heap.size = A at hq hA ⊢
  have iX0 : ∀ w ∈ u_ws RX0 TX0 12, w ∈ (Cond.code yX0_become cX0_become 2 none :: wsL_law) := fun w h => hsb w (bin_X0 w h)
  have lk0_ := hts _ (hsb _ wd_78)
  have lk1_ := hts _ (hsb _ wd_79)
  have lk2_ := hts _ (hsb _ wd_80)
  have lk3_ := hts _ (hsb _ wd_81)
  have lk4_ := hts _ (hsb _ wd_82)
  have lk5_ := hts _ (hsb _ wd_83)
  have lk6_ := hts _ (hsb _ wd_84)
  have lk7_ := hts _ (hsb _ wd_85)
  have lk8_ := hts _ (hsb _ wd_86)
  have lk9_ := hts _ (hsb _ wd_87)
  have lk10_ := hts _ (hsb _ wd_88)
  have lk11_ := hts _ (hsb _ wd_89)
  have hl := lv_entry ([.ref aC, .ref aO]) (n := 2) (Nat.le_of_ble_eq_true rfl)
  rw [lg_entry_eq]
  generalize (lg_sl ([.ref aC, .ref aO]) ++ List.replicate (2 - (lg_sl ([.ref aC, .ref aO])).length) Slot.unset).toArray = ls at hl ⊢
  have hl : lv_has ls 2 [(0, .ref aC), (1, .ref aO)] := hl
  refine lv_aload_n hx hb dX0_become_0 rfl (lv_at hl 0 rfl) ?_
  refine lv_aload_n hx hb dX0_become_1 rfl (lv_at hl 1 rfl) ?_
  refine kk_get (ci := 0) (v := .long O_place) (C := RX0) (T := TX0) (N := 12) hx hb hts iX0 hown hK hq 1 rfl rfl 0 (by decide) lk0_ rfl dX0_become_2 ?_
  refine kk_put (ws' := [(aC, .inr (0, [.long O_place, .long C_speed, .int C_posture, .int C_since, .int C_height, .int C_ticks, .int C_way, .int C_strength, .int C_drops, .int C_greatestDrop, .long C_otherPlace, .long C_otherSpeed])), (aO, .inr (0, [.long O_place, .long O_speed, .int O_posture, .int O_since, .int O_height, .int O_ticks, .int O_way, .int O_strength, .int O_drops, .int O_greatestDrop, .long O_otherPlace, .long O_otherSpeed]))]) (ci := 0) (v := .long O_place) (C := RX0) (T := TX0) (N := 12) hx hb hts iX0 tyX0_ok nmX0 hown hK hq 0 rfl rfl 0 (by decide) lk0_ rfl rfl rfl (Nat.le_of_ble_eq_true rfl) dX0_become_5 rfl (fun H locs hq => ?_)
  refine lv_aload_n hx hb dX0_become_8 rfl (lv_at hl 0 rfl) ?_
  refine lv_aload_n hx hb dX0_become_9 rfl (lv_at hl 1 rfl) ?_
  refine kk_get (ci := 0) (v := .long O_speed) (C := RX0) (T := TX0) (N := 12) hx hb hts iX0 hown hK hq 1 rfl rfl 1 (by decide) lk1_ rfl dX0_become_10 ?_
  refine kk_put (ws' := [(aC, .inr (0, [.long O_place, .long O_speed, .int C_posture, .int C_since, .int C_height, .int C_ticks, .int C_way, .int C_strength, .int C_drops, .int C_greatestDrop, .long C_otherPlace, .long C_otherSpeed])), (aO, .inr (0, [.long O_place, .long O_speed, .int O_posture, .int O_since, .int O_height, .int O_ticks, .int O_way, .int O_strength, .int O_drops, .int O_greatestDrop, .long O_otherPlace, .long O_otherSpeed]))]) (ci := 0) (v := .long O_speed) (C := RX0) (T := TX0) (N := 12) hx hb hts iX0 tyX0_ok nmX0 hown hK hq 0 rfl rfl 1 (by decide) lk1_ rfl rfl rfl (Nat.le_of_ble_eq_true rfl) dX0_become_13 rfl (fun H locs hq => ?_)
  refine lv_aload_n hx hb dX0_become_16 rfl (lv_at hl 0 rfl) ?_
  refine lv_aload_n hx hb dX0_become_17 rfl (lv_at hl 1 rfl) ?_
  refine kk_get (ci := 0) (v := .int O_posture) (C := RX0) (T := TX0) (N := 12) hx hb hts iX0 hown hK hq 1 rfl rfl 2 (by decide) lk2_ rfl dX0_become_18 ?_
  refine kk_put (ws' := [(aC, .inr (0, [.long O_place, .long O_speed, .int O_posture, .int C_since, .int C_height, .int C_ticks, .int C_way, .int C_strength, .int C_drops, .int C_greatestDrop, .long C_otherPlace, .long C_otherSpeed])), (aO, .inr (0, [.long O_place, .long O_speed, .int O_posture, .int O_since, .int O_height, .int O_ticks, .int O_way, .int O_strength, .int O_drops, .int O_greatestDrop, .long O_otherPlace, .long O_otherSpeed]))]) (ci := 0) (v := .int O_posture) (C := RX0) (T := TX0) (N := 12) hx hb hts iX0 tyX0_ok nmX0 hown hK hq 0 rfl rfl 2 (by decide) lk2_ rfl rfl rfl (Nat.le_of_ble_eq_true rfl) dX0_become_21 rfl (fun H locs hq => ?_)
  refine lv_aload_n hx hb dX0_become_24 rfl (lv_at hl 0 rfl) ?_
  refine lv_aload_n hx hb dX0_become_25 rfl (lv_at hl 1 rfl) ?_
  refine kk_get (ci := 0) (v := .int O_since) (C := RX0) (T := TX0) (N := 12) hx hb hts iX0 hown hK hq 1 rfl rfl 3 (by decide) lk3_ rfl dX0_become_26 ?_
  refine kk_put (ws' := [(aC, .inr (0, [.long O_place, .long O_speed, .int O_posture, .int O_since, .int C_height, .int C_ticks, .int C_way, .int C_strength, .int C_drops, .int C_greatestDrop, .long C_otherPlace, .long C_otherSpeed])), (aO, .inr (0, [.long O_place, .long O_speed, .int O_posture, .int O_since, .int O_height, .int O_ticks, .int O_way, .int O_strength, .int O_drops, .int O_greatestDrop, .long O_otherPlace, .long O_otherSpeed]))]) (ci := 0) (v := .int O_since) (C := RX0) (T := TX0) (N := 12) hx hb hts iX0 tyX0_ok nmX0 hown hK hq 0 rfl rfl 3 (by decide) lk3_ rfl rfl rfl (Nat.le_of_ble_eq_true rfl) dX0_become_29 rfl (fun H locs hq => ?_)
  refine lv_aload_n hx hb dX0_become_32 rfl (lv_at hl 0 rfl) ?_
  refine lv_aload_n hx hb dX0_become_33 rfl (lv_at hl 1 rfl) ?_
  refine kk_get (ci := 0) (v := .int O_height) (C := RX0) (T := TX0) (N := 12) hx hb hts iX0 hown hK hq 1 rfl rfl 4 (by decide) lk4_ rfl dX0_become_34 ?_
  refine kk_put (ws' := [(aC, .inr (0, [.long O_place, .long O_speed, .int O_posture, .int O_since, .int O_height, .int C_ticks, .int C_way, .int C_strength, .int C_drops, .int C_greatestDrop, .long C_otherPlace, .long C_otherSpeed])), (aO, .inr (0, [.long O_place, .long O_speed, .int O_posture, .int O_since, .int O_height, .int O_ticks, .int O_way, .int O_strength, .int O_drops, .int O_greatestDrop, .long O_otherPlace, .long O_otherSpeed]))]) (ci := 0) (v := .int O_height) (C := RX0) (T := TX0) (N := 12) hx hb hts iX0 tyX0_ok nmX0 hown hK hq 0 rfl rfl 4 (by decide) lk4_ rfl rfl rfl (Nat.le_of_ble_eq_true rfl) dX0_become_37 rfl (fun H locs hq => ?_)
  refine lv_aload_n hx hb dX0_become_40 rfl (lv_at hl 0 rfl) ?_
  refine lv_aload_n hx hb dX0_become_41 rfl (lv_at hl 1 rfl) ?_
  refine kk_get (ci := 0) (v := .int O_ticks) (C := RX0) (T := TX0) (N := 12) hx hb hts iX0 hown hK hq 1 rfl rfl 5 (by decide) lk5_ rfl dX0_become_42 ?_
  refine kk_put (ws' := [(aC, .inr (0, [.long O_place, .long O_speed, .int O_posture, .int O_since, .int O_height, .int O_ticks, .int C_way, .int C_strength, .int C_drops, .int C_greatestDrop, .long C_otherPlace, .long C_otherSpeed])), (aO, .inr (0, [.long O_place, .long O_speed, .int O_posture, .int O_since, .int O_height, .int O_ticks, .int O_way, .int O_strength, .int O_drops, .int O_greatestDrop, .long O_otherPlace, .long O_otherSpeed]))]) (ci := 0) (v := .int O_ticks) (C := RX0) (T := TX0) (N := 12) hx hb hts iX0 tyX0_ok nmX0 hown hK hq 0 rfl rfl 5 (by decide) lk5_ rfl rfl rfl (Nat.le_of_ble_eq_true rfl) dX0_become_45 rfl (fun H locs hq => ?_)
  refine lv_aload_n hx hb dX0_become_48 rfl (lv_at hl 0 rfl) ?_
  refine lv_aload_n hx hb dX0_become_49 rfl (lv_at hl 1 rfl) ?_
  refine kk_get (ci := 0) (v := .int O_way) (C := RX0) (T := TX0) (N := 12) hx hb hts iX0 hown hK hq 1 rfl rfl 6 (by decide) lk6_ rfl dX0_become_50 ?_
  refine kk_put (ws' := [(aC, .inr (0, [.long O_place, .long O_speed, .int O_posture, .int O_since, .int O_height, .int O_ticks, .int O_way, .int C_strength, .int C_drops, .int C_greatestDrop, .long C_otherPlace, .long C_otherSpeed])), (aO, .inr (0, [.long O_place, .long O_speed, .int O_posture, .int O_since, .int O_height, .int O_ticks, .int O_way, .int O_strength, .int O_drops, .int O_greatestDrop, .long O_otherPlace, .long O_otherSpeed]))]) (ci := 0) (v := .int O_way) (C := RX0) (T := TX0) (N := 12) hx hb hts iX0 tyX0_ok nmX0 hown hK hq 0 rfl rfl 6 (by decide) lk6_ rfl rfl rfl (Nat.le_of_ble_eq_true rfl) dX0_become_53 rfl (fun H locs hq => ?_)
  refine lv_aload_n hx hb dX0_become_56 rfl (lv_at hl 0 rfl) ?_
  refine lv_aload_n hx hb dX0_become_57 rfl (lv_at hl 1 rfl) ?_
  refine kk_get (ci := 0) (v := .int O_strength) (C := RX0) (T := TX0) (N := 12) hx hb hts iX0 hown hK hq 1 rfl rfl 7 (by decide) lk7_ rfl dX0_become_58 ?_
  refine kk_put (ws' := [(aC, .inr (0, [.long O_place, .long O_speed, .int O_posture, .int O_since, .int O_height, .int O_ticks, .int O_way, .int O_strength, .int C_drops, .int C_greatestDrop, .long C_otherPlace, .long C_otherSpeed])), (aO, .inr (0, [.long O_place, .long O_speed, .int O_posture, .int O_since, .int O_height, .int O_ticks, .int O_way, .int O_strength, .int O_drops, .int O_greatestDrop, .long O_otherPlace, .long O_otherSpeed]))]) (ci := 0) (v := .int O_strength) (C := RX0) (T := TX0) (N := 12) hx hb hts iX0 tyX0_ok nmX0 hown hK hq 0 rfl rfl 7 (by decide) lk7_ rfl rfl rfl (Nat.le_of_ble_eq_true rfl) dX0_become_61 rfl (fun H locs hq => ?_)
  refine lv_aload_n hx hb dX0_become_64 rfl (lv_at hl 0 rfl) ?_
  refine lv_aload_n hx hb dX0_become_65 rfl (lv_at hl 1 rfl) ?_
  refine kk_get (ci := 0) (v := .int O_drops) (C := RX0) (T := TX0) (N := 12) hx hb hts iX0 hown hK hq 1 rfl rfl 8 (by decide) lk8_ rfl dX0_become_66 ?_
  refine kk_put (ws' := [(aC, .inr (0, [.long O_place, .long O_speed, .int O_posture, .int O_since, .int O_height, .int O_ticks, .int O_way, .int O_strength, .int O_drops, .int C_greatestDrop, .long C_otherPlace, .long C_otherSpeed])), (aO, .inr (0, [.long O_place, .long O_speed, .int O_posture, .int O_since, .int O_height, .int O_ticks, .int O_way, .int O_strength, .int O_drops, .int O_greatestDrop, .long O_otherPlace, .long O_otherSpeed]))]) (ci := 0) (v := .int O_drops) (C := RX0) (T := TX0) (N := 12) hx hb hts iX0 tyX0_ok nmX0 hown hK hq 0 rfl rfl 8 (by decide) lk8_ rfl rfl rfl (Nat.le_of_ble_eq_true rfl) dX0_become_69 rfl (fun H locs hq => ?_)
  refine lv_aload_n hx hb dX0_become_72 rfl (lv_at hl 0 rfl) ?_
  refine lv_aload_n hx hb dX0_become_73 rfl (lv_at hl 1 rfl) ?_
  refine kk_get (ci := 0) (v := .int O_greatestDrop) (C := RX0) (T := TX0) (N := 12) hx hb hts iX0 hown hK hq 1 rfl rfl 9 (by decide) lk9_ rfl dX0_become_74 ?_
  refine kk_put (ws' := [(aC, .inr (0, [.long O_place, .long O_speed, .int O_posture, .int O_since, .int O_height, .int O_ticks, .int O_way, .int O_strength, .int O_drops, .int O_greatestDrop, .long C_otherPlace, .long C_otherSpeed])), (aO, .inr (0, [.long O_place, .long O_speed, .int O_posture, .int O_since, .int O_height, .int O_ticks, .int O_way, .int O_strength, .int O_drops, .int O_greatestDrop, .long O_otherPlace, .long O_otherSpeed]))]) (ci := 0) (v := .int O_greatestDrop) (C := RX0) (T := TX0) (N := 12) hx hb hts iX0 tyX0_ok nmX0 hown hK hq 0 rfl rfl 9 (by decide) lk9_ rfl rfl rfl (Nat.le_of_ble_eq_true rfl) dX0_become_77 rfl (fun H locs hq => ?_)
  refine lv_aload_n hx hb dX0_become_80 rfl (lv_at hl 0 rfl) ?_
  refine lv_aload_n hx hb dX0_become_81 rfl (lv_at hl 1 rfl) ?_
  refine kk_get (ci := 0) (v := .long O_otherPlace) (C := RX0) (T := TX0) (N := 12) hx hb hts iX0 hown hK hq 1 rfl rfl 10 (by decide) lk10_ rfl dX0_become_82 ?_
  refine kk_put (ws' := [(aC, .inr (0, [.long O_place, .long O_speed, .int O_posture, .int O_since, .int O_height, .int O_ticks, .int O_way, .int O_strength, .int O_drops, .int O_greatestDrop, .long O_otherPlace, .long C_otherSpeed])), (aO, .inr (0, [.long O_place, .long O_speed, .int O_posture, .int O_since, .int O_height, .int O_ticks, .int O_way, .int O_strength, .int O_drops, .int O_greatestDrop, .long O_otherPlace, .long O_otherSpeed]))]) (ci := 0) (v := .long O_otherPlace) (C := RX0) (T := TX0) (N := 12) hx hb hts iX0 tyX0_ok nmX0 hown hK hq 0 rfl rfl 10 (by decide) lk10_ rfl rfl rfl (Nat.le_of_ble_eq_true rfl) dX0_become_85 rfl (fun H locs hq => ?_)
  refine lv_aload_n hx hb dX0_become_88 rfl (lv_at hl 0 rfl) ?_
  refine lv_aload_n hx hb dX0_become_89 rfl (lv_at hl 1 rfl) ?_
  refine kk_get (ci := 0) (v := .long O_otherSpeed) (C := RX0) (T := TX0) (N := 12) hx hb hts iX0 hown hK hq 1 rfl rfl 11 (by decide) lk11_ rfl dX0_become_90 ?_
  refine kk_put (ws' := [(aC, .inr (0, [.long O_place, .long O_speed, .int O_posture, .int O_since, .int O_height, .int O_ticks, .int O_way, .int O_strength, .int O_drops, .int O_greatestDrop, .long O_otherPlace, .long O_otherSpeed])), (aO, .inr (0, [.long O_place, .long O_speed, .int O_posture, .int O_since, .int O_height, .int O_ticks, .int O_way, .int O_strength, .int O_drops, .int O_greatestDrop, .long O_otherPlace, .long O_otherSpeed]))]) (ci := 0) (v := .long O_otherSpeed) (C := RX0) (T := TX0) (N := 12) hx hb hts iX0 tyX0_ok nmX0 hown hK hq 0 rfl rfl 11 (by decide) lk11_ rfl rfl rfl (Nat.le_of_ble_eq_true rfl) dX0_become_93 rfl (fun H locs hq => ?_)
  have hf : ((O_place, O_speed, O_posture, O_since, O_height, O_ticks, O_way, O_strength, O_drops, O_greatestDrop, O_otherPlace, O_otherSpeed) : Int64 × Int64 × Int32 × Int32 × Int32 × Int32 × Int32 × Int32 × Int32 × Int32 × Int64 × Int64) = fX0_become O_place O_speed O_posture O_since O_height O_ticks O_way O_strength O_drops O_greatestDrop O_otherPlace O_otherSpeed := by
    exact rfl
  exact kk_ev hx hb hr hlocks hK hq [0, 1] (O_place, O_speed, O_posture, O_since, O_height, O_ticks, O_way, O_strength, O_drops, O_greatestDrop, O_otherPlace, O_otherSpeed) rfl (by decide) dX0_become_96 hf
def fX0_startFrom (p1 : Int32) : Int64 × Int64 × Int32 × Int32 × Int32 × Int32 × Int64 × Int64 :=
  (p1.toInt64, 0, 0, 0, 0, 0, 0, 0)

set_option maxHeartbeats 4000000 in
set_option maxRecDepth 100000 in
theorem c_X0_startFrom (l : Launch) (G : va_G) (aC : Nat) (p1 : Int32) (C_place : Int64) (C_speed : Int64) (C_posture : Int32) (C_since : Int32) (C_height : Int32) (C_ticks : Int32) (C_way : Int32) (C_strength : Int32) (C_drops : Int32) (C_greatestDrop : Int32) (C_otherPlace : Int64) (C_otherSpeed : Int64) : kCv l yX0_startFrom (Cond.code yX0_startFrom cX0_startFrom 2 none :: wsL_law) ({ frames := 0, cells := 0, slots := 0, locals := 0 }) G [] [.ref aC, .int p1] [(aC, .inr (0, [.long C_place, .long C_speed, .int C_posture, .int C_since, .int C_height, .int C_ticks, .int C_way, .int C_strength, .int C_drops, .int C_greatestDrop, .long C_otherPlace, .long C_otherSpeed]))] (fun (u : Int64 × Int64 × Int32 × Int32 × Int32 × Int32 × Int64 × Int64) => u = fX0_startFrom p1) (fun (u : Int64 × Int64 × Int32 × Int32 × Int32 × Int32 × Int64 × Int64) => [(aC, .inr (0, [.long u.1, .long u.2.1, .int u.2.2.1, .int u.2.2.2.1, .int u.2.2.2.2.1, .int C_ticks, .int u.2.2.2.2.2.1, .int C_strength, .int C_drops, .int C_greatestDrop, .long u.2.2.2.2.2.2.1, .long u.2.2.2.2.2.2.2]))]) := by
  intro sz
  refine Met.ofW (cc := cX0_startFrom) (maxL := 2) (ret := none) (by decide) rfl ?_
  intro p e s m args below meth c s₁ B hml hv
  obtain ⟨rfl, hv⟩ := hv
  obtain ⟨rfl, hK, hq, hA⟩ := kk_begin hv
  have hx := B.exec
  have hb := B.bytes
  have hr := B.returns
  have hts := atoms_spec (ws := (Cond.code yX0_startFrom cX0_startFrom 2 none :: wsL_law)) B.pre
  have hown : s.vm.findClass RX0 = some m.cls := findClass_of_methodNamed B.named
  have hlocks := B.notSynchronized
  have hsb : ∀ w ∈ wsL_law, w ∈ (Cond.code yX0_startFrom cX0_startFrom 2 none :: wsL_law) := fun _ h => List.mem_cons_of_mem _ h
  generalize va_A [(aC, .inr (0, [.long C_place, .long C_speed, .int C_posture, .int C_since, .int C_height, .int C_ticks, .int C_way, .int C_strength, .int C_drops, .int C_greatestDrop, .long C_otherPlace, .long C_otherSpeed]))] s.heap.size = A at hq hA ⊢
  have iX0 : ∀ w ∈ u_ws RX0 TX0 12, w ∈ (Cond.code yX0_startFrom cX0_startFrom 2 none :: wsL_law) := fun w h => hsb w (bin_X0 w h)
  have lk0_ := hts _ (hsb _ wd_78)
  have lk1_ := hts _ (hsb _ wd_79)
  have lk2_ := hts _ (hsb _ wd_80)
  have lk3_ := hts _ (hsb _ wd_81)
  have lk4_ := hts _ (hsb _ wd_82)
  have lk5_ := hts _ (hsb _ wd_84)
  have lk6_ := hts _ (hsb _ wd_88)
  have lk7_ := hts _ (hsb _ wd_89)
  have hl := lv_entry ([.ref aC, .int p1]) (n := 2) (Nat.le_of_ble_eq_true rfl)
  rw [lg_entry_eq]
  generalize (lg_sl ([.ref aC, .int p1]) ++ List.replicate (2 - (lg_sl ([.ref aC, .int p1])).length) Slot.unset).toArray = ls at hl ⊢
  have hl : lv_has ls 2 [(0, .ref aC), (1, .int p1)] := hl
  refine lv_aload_n hx hb dX0_startFrom_0 rfl (lv_at hl 0 rfl) ?_
  refine lv_iload_n hx hb dX0_startFrom_1 rfl (lv_at hl 1 rfl) ?_
  refine lv_i2l hx hb dX0_startFrom_2 rfl ?_
  refine kk_put (ws' := [(aC, .inr (0, [.long p1.toInt64, .long C_speed, .int C_posture, .int C_since, .int C_height, .int C_ticks, .int C_way, .int C_strength, .int C_drops, .int C_greatestDrop, .long C_otherPlace, .long C_otherSpeed]))]) (ci := 0) (v := .long p1.toInt64) (C := RX0) (T := TX0) (N := 12) hx hb hts iX0 tyX0_ok nmX0 hown hK hq 0 rfl rfl 0 (by decide) lk0_ rfl rfl rfl (Nat.le_of_ble_eq_true rfl) dX0_startFrom_3 rfl (fun H locs hq => ?_)
  refine lv_aload_n hx hb dX0_startFrom_6 rfl (lv_at hl 0 rfl) ?_
  refine lv_lconst (v := 0) hx hb dX0_startFrom_7 (by decide) ?_
  refine kk_put (ws' := [(aC, .inr (0, [.long p1.toInt64, .long 0, .int C_posture, .int C_since, .int C_height, .int C_ticks, .int C_way, .int C_strength, .int C_drops, .int C_greatestDrop, .long C_otherPlace, .long C_otherSpeed]))]) (ci := 0) (v := .long 0) (C := RX0) (T := TX0) (N := 12) hx hb hts iX0 tyX0_ok nmX0 hown hK hq 0 rfl rfl 1 (by decide) lk1_ rfl rfl rfl (Nat.le_of_ble_eq_true rfl) dX0_startFrom_8 rfl (fun H locs hq => ?_)
  refine lv_aload_n hx hb dX0_startFrom_11 rfl (lv_at hl 0 rfl) ?_
  refine lv_iconst (v := 0) hx hb dX0_startFrom_12 (by decide) ?_
  refine kk_put (ws' := [(aC, .inr (0, [.long p1.toInt64, .long 0, .int 0, .int C_since, .int C_height, .int C_ticks, .int C_way, .int C_strength, .int C_drops, .int C_greatestDrop, .long C_otherPlace, .long C_otherSpeed]))]) (ci := 0) (v := .int 0) (C := RX0) (T := TX0) (N := 12) hx hb hts iX0 tyX0_ok nmX0 hown hK hq 0 rfl rfl 2 (by decide) lk2_ rfl rfl rfl (Nat.le_of_ble_eq_true rfl) dX0_startFrom_13 rfl (fun H locs hq => ?_)
  refine lv_aload_n hx hb dX0_startFrom_16 rfl (lv_at hl 0 rfl) ?_
  refine lv_iconst (v := 0) hx hb dX0_startFrom_17 (by decide) ?_
  refine kk_put (ws' := [(aC, .inr (0, [.long p1.toInt64, .long 0, .int 0, .int 0, .int C_height, .int C_ticks, .int C_way, .int C_strength, .int C_drops, .int C_greatestDrop, .long C_otherPlace, .long C_otherSpeed]))]) (ci := 0) (v := .int 0) (C := RX0) (T := TX0) (N := 12) hx hb hts iX0 tyX0_ok nmX0 hown hK hq 0 rfl rfl 3 (by decide) lk3_ rfl rfl rfl (Nat.le_of_ble_eq_true rfl) dX0_startFrom_18 rfl (fun H locs hq => ?_)
  refine lv_aload_n hx hb dX0_startFrom_21 rfl (lv_at hl 0 rfl) ?_
  refine lv_iconst (v := 0) hx hb dX0_startFrom_22 (by decide) ?_
  refine kk_put (ws' := [(aC, .inr (0, [.long p1.toInt64, .long 0, .int 0, .int 0, .int 0, .int C_ticks, .int C_way, .int C_strength, .int C_drops, .int C_greatestDrop, .long C_otherPlace, .long C_otherSpeed]))]) (ci := 0) (v := .int 0) (C := RX0) (T := TX0) (N := 12) hx hb hts iX0 tyX0_ok nmX0 hown hK hq 0 rfl rfl 4 (by decide) lk4_ rfl rfl rfl (Nat.le_of_ble_eq_true rfl) dX0_startFrom_23 rfl (fun H locs hq => ?_)
  refine lv_aload_n hx hb dX0_startFrom_26 rfl (lv_at hl 0 rfl) ?_
  refine lv_iconst (v := 0) hx hb dX0_startFrom_27 (by decide) ?_
  refine kk_put (ws' := [(aC, .inr (0, [.long p1.toInt64, .long 0, .int 0, .int 0, .int 0, .int C_ticks, .int 0, .int C_strength, .int C_drops, .int C_greatestDrop, .long C_otherPlace, .long C_otherSpeed]))]) (ci := 0) (v := .int 0) (C := RX0) (T := TX0) (N := 12) hx hb hts iX0 tyX0_ok nmX0 hown hK hq 0 rfl rfl 6 (by decide) lk5_ rfl rfl rfl (Nat.le_of_ble_eq_true rfl) dX0_startFrom_28 rfl (fun H locs hq => ?_)
  refine lv_aload_n hx hb dX0_startFrom_31 rfl (lv_at hl 0 rfl) ?_
  refine lv_lconst (v := 0) hx hb dX0_startFrom_32 (by decide) ?_
  refine kk_put (ws' := [(aC, .inr (0, [.long p1.toInt64, .long 0, .int 0, .int 0, .int 0, .int C_ticks, .int 0, .int C_strength, .int C_drops, .int C_greatestDrop, .long 0, .long C_otherSpeed]))]) (ci := 0) (v := .long 0) (C := RX0) (T := TX0) (N := 12) hx hb hts iX0 tyX0_ok nmX0 hown hK hq 0 rfl rfl 10 (by decide) lk6_ rfl rfl rfl (Nat.le_of_ble_eq_true rfl) dX0_startFrom_33 rfl (fun H locs hq => ?_)
  refine lv_aload_n hx hb dX0_startFrom_36 rfl (lv_at hl 0 rfl) ?_
  refine lv_lconst (v := 0) hx hb dX0_startFrom_37 (by decide) ?_
  refine kk_put (ws' := [(aC, .inr (0, [.long p1.toInt64, .long 0, .int 0, .int 0, .int 0, .int C_ticks, .int 0, .int C_strength, .int C_drops, .int C_greatestDrop, .long 0, .long 0]))]) (ci := 0) (v := .long 0) (C := RX0) (T := TX0) (N := 12) hx hb hts iX0 tyX0_ok nmX0 hown hK hq 0 rfl rfl 11 (by decide) lk7_ rfl rfl rfl (Nat.le_of_ble_eq_true rfl) dX0_startFrom_38 rfl (fun H locs hq => ?_)
  have hf : ((p1.toInt64, 0, 0, 0, 0, 0, 0, 0) : Int64 × Int64 × Int32 × Int32 × Int32 × Int32 × Int64 × Int64) = fX0_startFrom p1 := by
    exact rfl
  exact kk_ev hx hb hr hlocks hK hq [0] (p1.toInt64, 0, 0, 0, 0, 0, 0, 0) rfl (by decide) dX0_startFrom_41 hf
def fX0_distance (C_place : Int64) : Int32 :=
  (if 0 < C_place then C_place else -C_place).toInt32

set_option maxHeartbeats 4000000 in
set_option maxRecDepth 100000 in
theorem c_X0_distance (l : Launch) (G : va_G) (aC : Nat) (C_place : Int64) (C_speed : Int64) (C_posture : Int32) (C_since : Int32) (C_height : Int32) (C_ticks : Int32) (C_way : Int32) (C_strength : Int32) (C_drops : Int32) (C_greatestDrop : Int32) (C_otherPlace : Int64) (C_otherSpeed : Int64) : kCi l yX0_distance (Cond.code yX0_distance cX0_distance 1 (some .int) :: wsL_law) ({ frames := 1, cells := 0, slots := 0, locals := 30 }) G [] [.ref aC] [(aC, .inr (0, [.long C_place, .long C_speed, .int C_posture, .int C_since, .int C_height, .int C_ticks, .int C_way, .int C_strength, .int C_drops, .int C_greatestDrop, .long C_otherPlace, .long C_otherSpeed]))] (fun (r : Int32) (_ : Unit) => r = fX0_distance C_place) (fun (_ : Unit) => [(aC, .inr (0, [.long C_place, .long C_speed, .int C_posture, .int C_since, .int C_height, .int C_ticks, .int C_way, .int C_strength, .int C_drops, .int C_greatestDrop, .long C_otherPlace, .long C_otherSpeed]))]) := by
  intro sz
  refine Met.ofW (cc := cX0_distance) (maxL := 1) (ret := (some .int)) (by decide) rfl ?_
  intro p e s m args below meth c s₁ B hml hv
  obtain ⟨rfl, hv⟩ := hv
  obtain ⟨rfl, hK, hq, hA⟩ := kk_begin hv
  have hx := B.exec
  have hb := B.bytes
  have hr := B.returns
  have hts := atoms_spec (ws := (Cond.code yX0_distance cX0_distance 1 (some .int) :: wsL_law)) B.pre
  have hown : s.vm.findClass RX0 = some m.cls := findClass_of_methodNamed B.named
  have hlocks := B.notSynchronized
  have hsb : ∀ w ∈ wsL_law, w ∈ (Cond.code yX0_distance cX0_distance 1 (some .int) :: wsL_law) := fun _ h => List.mem_cons_of_mem _ h
  generalize va_A [(aC, .inr (0, [.long C_place, .long C_speed, .int C_posture, .int C_since, .int C_height, .int C_ticks, .int C_way, .int C_strength, .int C_drops, .int C_greatestDrop, .long C_otherPlace, .long C_otherSpeed]))] s.heap.size = A at hq hA ⊢
  have iX0 : ∀ w ∈ u_ws RX0 TX0 12, w ∈ (Cond.code yX0_distance cX0_distance 1 (some .int) :: wsL_law) := fun w h => hsb w (bin_X0 w h)
  have lk0_ := hts _ (hsb _ wd_78)
  have lk1_ := hts _ (hsb _ wd_383)
  have lk2_ := hts _ (hsb _ wd_384)
  have lk3_ := hts _ (hsb _ wd_385)
  have lk4_ := hts _ (hsb _ wd_386)
  have hl := lv_entry ([.ref aC]) (n := 1) (Nat.le_of_ble_eq_true rfl)
  rw [lg_entry_eq]
  generalize (lg_sl ([.ref aC]) ++ List.replicate (1 - (lg_sl ([.ref aC])).length) Slot.unset).toArray = ls at hl ⊢
  have hl : lv_has ls 1 [(0, .ref aC)] := hl
  refine lv_aload_n hx hb dX0_distance_0 rfl (lv_at hl 0 rfl) ?_
  refine kk_get (ci := 0) (v := .long C_place) (C := RX0) (T := TX0) (N := 12) hx hb hts iX0 hown hK hq 0 rfl rfl 0 (by decide) lk0_ rfl dX0_distance_1 ?_
  refine va_mabs_long hx hb (by rw [hml]; exact hl.1.symm) hown lk1_ lk2_ lk3_ lk4_ (Nat.le_of_ble_eq_true rfl) (Nat.le_of_ble_eq_true rfl) (Nat.zero_le _) (Nat.zero_le _) dX0_distance_4 ?_
  refine lv_l2i hx hb dX0_distance_7 rfl ?_
  have hf : ((if 0 < C_place then C_place else -C_place).toInt32 : Int32) = fX0_distance C_place := by
    exact rfl
  exact kk_ei hx hb hr hlocks hK hq [0] () rfl (by decide) dX0_distance_8 hf
def fX0_otherDistance (C_otherPlace : Int64) : Int32 :=
  (if 0 < C_otherPlace then C_otherPlace else -C_otherPlace).toInt32

set_option maxHeartbeats 4000000 in
set_option maxRecDepth 100000 in
theorem c_X0_otherDistance (l : Launch) (G : va_G) (aC : Nat) (C_place : Int64) (C_speed : Int64) (C_posture : Int32) (C_since : Int32) (C_height : Int32) (C_ticks : Int32) (C_way : Int32) (C_strength : Int32) (C_drops : Int32) (C_greatestDrop : Int32) (C_otherPlace : Int64) (C_otherSpeed : Int64) : kCi l yX0_otherDistance (Cond.code yX0_otherDistance cX0_otherDistance 1 (some .int) :: wsL_law) ({ frames := 1, cells := 0, slots := 0, locals := 30 }) G [] [.ref aC] [(aC, .inr (0, [.long C_place, .long C_speed, .int C_posture, .int C_since, .int C_height, .int C_ticks, .int C_way, .int C_strength, .int C_drops, .int C_greatestDrop, .long C_otherPlace, .long C_otherSpeed]))] (fun (r : Int32) (_ : Unit) => r = fX0_otherDistance C_otherPlace) (fun (_ : Unit) => [(aC, .inr (0, [.long C_place, .long C_speed, .int C_posture, .int C_since, .int C_height, .int C_ticks, .int C_way, .int C_strength, .int C_drops, .int C_greatestDrop, .long C_otherPlace, .long C_otherSpeed]))]) := by
  intro sz
  refine Met.ofW (cc := cX0_otherDistance) (maxL := 1) (ret := (some .int)) (by decide) rfl ?_
  intro p e s m args below meth c s₁ B hml hv
  obtain ⟨rfl, hv⟩ := hv
  obtain ⟨rfl, hK, hq, hA⟩ := kk_begin hv
  have hx := B.exec
  have hb := B.bytes
  have hr := B.returns
  have hts := atoms_spec (ws := (Cond.code yX0_otherDistance cX0_otherDistance 1 (some .int) :: wsL_law)) B.pre
  have hown : s.vm.findClass RX0 = some m.cls := findClass_of_methodNamed B.named
  have hlocks := B.notSynchronized
  have hsb : ∀ w ∈ wsL_law, w ∈ (Cond.code yX0_otherDistance cX0_otherDistance 1 (some .int) :: wsL_law) := fun _ h => List.mem_cons_of_mem _ h
  generalize va_A [(aC, .inr (0, [.long C_place, .long C_speed, .int C_posture, .int C_since, .int C_height, .int C_ticks, .int C_way, .int C_strength, .int C_drops, .int C_greatestDrop, .long C_otherPlace, .long C_otherSpeed]))] s.heap.size = A at hq hA ⊢
  have iX0 : ∀ w ∈ u_ws RX0 TX0 12, w ∈ (Cond.code yX0_otherDistance cX0_otherDistance 1 (some .int) :: wsL_law) := fun w h => hsb w (bin_X0 w h)
  have lk0_ := hts _ (hsb _ wd_88)
  have lk1_ := hts _ (hsb _ wd_383)
  have lk2_ := hts _ (hsb _ wd_384)
  have lk3_ := hts _ (hsb _ wd_385)
  have lk4_ := hts _ (hsb _ wd_386)
  have hl := lv_entry ([.ref aC]) (n := 1) (Nat.le_of_ble_eq_true rfl)
  rw [lg_entry_eq]
  generalize (lg_sl ([.ref aC]) ++ List.replicate (1 - (lg_sl ([.ref aC])).length) Slot.unset).toArray = ls at hl ⊢
  have hl : lv_has ls 1 [(0, .ref aC)] := hl
  refine lv_aload_n hx hb dX0_otherDistance_0 rfl (lv_at hl 0 rfl) ?_
  refine kk_get (ci := 0) (v := .long C_otherPlace) (C := RX0) (T := TX0) (N := 12) hx hb hts iX0 hown hK hq 0 rfl rfl 10 (by decide) lk0_ rfl dX0_otherDistance_1 ?_
  refine va_mabs_long hx hb (by rw [hml]; exact hl.1.symm) hown lk1_ lk2_ lk3_ lk4_ (Nat.le_of_ble_eq_true rfl) (Nat.le_of_ble_eq_true rfl) (Nat.zero_le _) (Nat.zero_le _) dX0_otherDistance_4 ?_
  refine lv_l2i hx hb dX0_otherDistance_7 rfl ?_
  have hf : ((if 0 < C_otherPlace then C_otherPlace else -C_otherPlace).toInt32 : Int32) = fX0_otherDistance C_otherPlace := by
    exact rfl
  exact kk_ei hx hb hr hlocks hK hq [0] () rfl (by decide) dX0_otherDistance_8 hf
theorem hd_X0_distance : yX0_distance.cls = RX0 ∧ yX0_distance.cls ≠ "java/lang/invoke/MethodHandle" ∧ yX0_distance.cls ≠ "java/lang/invoke/VarHandle" ∧ (parseMethodDescriptor yX0_distance.desc).map (fun d => d.parameters.length) = some 0 := by decide +kernel
theorem hd_X0_startFrom : yX0_startFrom.cls = RX0 ∧ yX0_startFrom.cls ≠ "java/lang/invoke/MethodHandle" ∧ yX0_startFrom.cls ≠ "java/lang/invoke/VarHandle" ∧ (parseMethodDescriptor yX0_startFrom.desc).map (fun d => d.parameters.length) = some 1 := by decide +kernel
def fX0_beginAnew (p1 : Int32) : Int64 × Int64 × Int32 × Int32 × Int32 × Int32 × Int32 × Int32 × Int32 × Int32 × Int64 × Int64 :=
  let u_1 : Int64 × Int64 × Int32 × Int32 × Int32 × Int32 × Int64 × Int64 := fX0_startFrom p1
  let r_5 : Int32 := fX0_distance u_1.1
  (u_1.1, u_1.2.1, u_1.2.2.1, u_1.2.2.2.1, r_5, 0, u_1.2.2.2.2.2.1, 0, 0, 0, u_1.2.2.2.2.2.2.1, u_1.2.2.2.2.2.2.2)

set_option maxHeartbeats 4000000 in
set_option maxRecDepth 100000 in
theorem c_X0_beginAnew (l : Launch) (G : va_G) (aC : Nat) (p1 : Int32) (C_place : Int64) (C_speed : Int64) (C_posture : Int32) (C_since : Int32) (C_height : Int32) (C_ticks : Int32) (C_way : Int32) (C_strength : Int32) (C_drops : Int32) (C_greatestDrop : Int32) (C_otherPlace : Int64) (C_otherSpeed : Int64) : kCv l yX0_beginAnew (Cond.code yX0_beginAnew cX0_beginAnew 2 none :: wsL_law) ({ frames := 2, cells := 0, slots := 0, locals := 50 }) G [] [.ref aC, .int p1] [(aC, .inr (0, [.long C_place, .long C_speed, .int C_posture, .int C_since, .int C_height, .int C_ticks, .int C_way, .int C_strength, .int C_drops, .int C_greatestDrop, .long C_otherPlace, .long C_otherSpeed]))] (fun (u : Int64 × Int64 × Int32 × Int32 × Int32 × Int32 × Int32 × Int32 × Int32 × Int32 × Int64 × Int64) => u = fX0_beginAnew p1) (fun (u : Int64 × Int64 × Int32 × Int32 × Int32 × Int32 × Int32 × Int32 × Int32 × Int32 × Int64 × Int64) => [(aC, .inr (0, [.long u.1, .long u.2.1, .int u.2.2.1, .int u.2.2.2.1, .int u.2.2.2.2.1, .int u.2.2.2.2.2.1, .int u.2.2.2.2.2.2.1, .int u.2.2.2.2.2.2.2.1, .int u.2.2.2.2.2.2.2.2.1, .int u.2.2.2.2.2.2.2.2.2.1, .long u.2.2.2.2.2.2.2.2.2.2.1, .long u.2.2.2.2.2.2.2.2.2.2.2]))]) := by
  intro sz
  refine Met.ofW (cc := cX0_beginAnew) (maxL := 2) (ret := none) (by decide) rfl ?_
  intro p e s m args below meth c s₁ B hml hv
  obtain ⟨rfl, hv⟩ := hv
  obtain ⟨rfl, hK, hq, hA⟩ := kk_begin hv
  have hx := B.exec
  have hb := B.bytes
  have hr := B.returns
  have hts := atoms_spec (ws := (Cond.code yX0_beginAnew cX0_beginAnew 2 none :: wsL_law)) B.pre
  have hown : s.vm.findClass RX0 = some m.cls := findClass_of_methodNamed B.named
  have hlocks := B.notSynchronized
  have hsb : ∀ w ∈ wsL_law, w ∈ (Cond.code yX0_beginAnew cX0_beginAnew 2 none :: wsL_law) := fun _ h => List.mem_cons_of_mem _ h
  generalize va_A [(aC, .inr (0, [.long C_place, .long C_speed, .int C_posture, .int C_since, .int C_height, .int C_ticks, .int C_way, .int C_strength, .int C_drops, .int C_greatestDrop, .long C_otherPlace, .long C_otherSpeed]))] s.heap.size = A at hq hA ⊢
  have iX0 : ∀ w ∈ u_ws RX0 TX0 12, w ∈ (Cond.code yX0_beginAnew cX0_beginAnew 2 none :: wsL_law) := fun w h => hsb w (bin_X0 w h)
  have lk0_ := hts _ (hsb _ wd_82)
  have lk1_ := hts _ (hsb _ wd_83)
  have lk2_ := hts _ (hsb _ wd_85)
  have lk3_ := hts _ (hsb _ wd_86)
  have lk4_ := hts _ (hsb _ wd_87)
  have hl := lv_entry ([.ref aC, .int p1]) (n := 2) (Nat.le_of_ble_eq_true rfl)
  rw [lg_entry_eq]
  generalize (lg_sl ([.ref aC, .int p1]) ++ List.replicate (2 - (lg_sl ([.ref aC, .int p1])).length) Slot.unset).toArray = ls at hl ⊢
  have hl : lv_has ls 2 [(0, .ref aC), (1, .int p1)] := hl
  refine lv_aload_n hx hb dX0_beginAnew_0 rfl (lv_at hl 0 rfl) ?_
  refine lv_iload_n hx hb dX0_beginAnew_1 rfl (lv_at hl 1 rfl) ?_
  refine kk_Vv (As := [.int p1]) (rest := []) (wr := []) ⟨hx, hb, hml, hown, hts⟩ (c_X0_startFrom l G aC p1 C_place C_speed C_posture C_since C_height C_ticks C_way C_strength C_drops C_greatestDrop C_otherPlace C_otherSpeed) (kk_cwV 1 hts hsb wd_375 wd_376 wd_377 wd_30 wd_378 rfl rfl hd_X0_startFrom ⟨Nat.le_of_ble_eq_true rfl, Nat.le_of_ble_eq_true rfl⟩) hA hK hq [0] [] [] rfl rfl rfl (by decide) (by decide) (by decide) 0 0 rfl rfl rfl rfl hl.1 rfl (Nat.le_of_ble_eq_true rfl) dX0_beginAnew_2 ⟨Nat.zero_le _, Nat.zero_le _⟩ (fun u_1 H locs h_3 hq => ?_)
  have eu_1 := h_3
  have hq : kAt G A s [(aC, .inr (0, [.long u_1.1, .long u_1.2.1, .int u_1.2.2.1, .int u_1.2.2.2.1, .int u_1.2.2.2.2.1, .int C_ticks, .int u_1.2.2.2.2.2.1, .int C_strength, .int C_drops, .int C_greatestDrop, .long u_1.2.2.2.2.2.2.1, .long u_1.2.2.2.2.2.2.2]))] H locs := hq
  refine lv_aload_n hx hb dX0_beginAnew_5 rfl (lv_at hl 0 rfl) ?_
  refine lv_aload_n hx hb dX0_beginAnew_6 rfl (lv_at hl 0 rfl) ?_
  refine kk_Vi (As := []) (rest := [.ref aC]) (wr := []) ⟨hx, hb, hml, hown, hts⟩ (c_X0_distance l G aC u_1.1 u_1.2.1 u_1.2.2.1 u_1.2.2.2.1 u_1.2.2.2.2.1 C_ticks u_1.2.2.2.2.2.1 C_strength C_drops C_greatestDrop u_1.2.2.2.2.2.2.1 u_1.2.2.2.2.2.2.2) (kk_cwV 0 hts hsb wd_379 wd_380 wd_381 wd_30 wd_382 rfl rfl hd_X0_distance ⟨Nat.le_of_ble_eq_true rfl, Nat.le_of_ble_eq_true rfl⟩) hA hK hq [0] [] [] rfl rfl rfl (by decide) (by decide) (by decide) 0 0 rfl rfl rfl rfl hl.1 rfl (Nat.le_of_ble_eq_true rfl) dX0_beginAnew_7 ⟨Nat.zero_le _, Nat.zero_le _⟩ (fun r_5 u_4 H locs h_6 hq => ?_)
  have er_5 := h_6
  have hq : kAt G A s [(aC, .inr (0, [.long u_1.1, .long u_1.2.1, .int u_1.2.2.1, .int u_1.2.2.2.1, .int u_1.2.2.2.2.1, .int C_ticks, .int u_1.2.2.2.2.2.1, .int C_strength, .int C_drops, .int C_greatestDrop, .long u_1.2.2.2.2.2.2.1, .long u_1.2.2.2.2.2.2.2]))] H locs := hq
  refine kk_put (ws' := [(aC, .inr (0, [.long u_1.1, .long u_1.2.1, .int u_1.2.2.1, .int u_1.2.2.2.1, .int r_5, .int C_ticks, .int u_1.2.2.2.2.2.1, .int C_strength, .int C_drops, .int C_greatestDrop, .long u_1.2.2.2.2.2.2.1, .long u_1.2.2.2.2.2.2.2]))]) (ci := 0) (v := .int r_5) (C := RX0) (T := TX0) (N := 12) hx hb hts iX0 tyX0_ok nmX0 hown hK hq 0 rfl rfl 4 (by decide) lk0_ rfl rfl rfl (Nat.le_of_ble_eq_true rfl) dX0_beginAnew_10 rfl (fun H locs hq => ?_)
  refine lv_aload_n hx hb dX0_beginAnew_13 rfl (lv_at hl 0 rfl) ?_
  refine lv_iconst (v := 0) hx hb dX0_beginAnew_14 (by decide) ?_
  refine kk_put (ws' := [(aC, .inr (0, [.long u_1.1, .long u_1.2.1, .int u_1.2.2.1, .int u_1.2.2.2.1, .int r_5, .int 0, .int u_1.2.2.2.2.2.1, .int C_strength, .int C_drops, .int C_greatestDrop, .long u_1.2.2.2.2.2.2.1, .long u_1.2.2.2.2.2.2.2]))]) (ci := 0) (v := .int 0) (C := RX0) (T := TX0) (N := 12) hx hb hts iX0 tyX0_ok nmX0 hown hK hq 0 rfl rfl 5 (by decide) lk1_ rfl rfl rfl (Nat.le_of_ble_eq_true rfl) dX0_beginAnew_15 rfl (fun H locs hq => ?_)
  refine lv_aload_n hx hb dX0_beginAnew_18 rfl (lv_at hl 0 rfl) ?_
  refine lv_iconst (v := 0) hx hb dX0_beginAnew_19 (by decide) ?_
  refine kk_put (ws' := [(aC, .inr (0, [.long u_1.1, .long u_1.2.1, .int u_1.2.2.1, .int u_1.2.2.2.1, .int r_5, .int 0, .int u_1.2.2.2.2.2.1, .int 0, .int C_drops, .int C_greatestDrop, .long u_1.2.2.2.2.2.2.1, .long u_1.2.2.2.2.2.2.2]))]) (ci := 0) (v := .int 0) (C := RX0) (T := TX0) (N := 12) hx hb hts iX0 tyX0_ok nmX0 hown hK hq 0 rfl rfl 7 (by decide) lk2_ rfl rfl rfl (Nat.le_of_ble_eq_true rfl) dX0_beginAnew_20 rfl (fun H locs hq => ?_)
  refine lv_aload_n hx hb dX0_beginAnew_23 rfl (lv_at hl 0 rfl) ?_
  refine lv_iconst (v := 0) hx hb dX0_beginAnew_24 (by decide) ?_
  refine kk_put (ws' := [(aC, .inr (0, [.long u_1.1, .long u_1.2.1, .int u_1.2.2.1, .int u_1.2.2.2.1, .int r_5, .int 0, .int u_1.2.2.2.2.2.1, .int 0, .int 0, .int C_greatestDrop, .long u_1.2.2.2.2.2.2.1, .long u_1.2.2.2.2.2.2.2]))]) (ci := 0) (v := .int 0) (C := RX0) (T := TX0) (N := 12) hx hb hts iX0 tyX0_ok nmX0 hown hK hq 0 rfl rfl 8 (by decide) lk3_ rfl rfl rfl (Nat.le_of_ble_eq_true rfl) dX0_beginAnew_25 rfl (fun H locs hq => ?_)
  refine lv_aload_n hx hb dX0_beginAnew_28 rfl (lv_at hl 0 rfl) ?_
  refine lv_iconst (v := 0) hx hb dX0_beginAnew_29 (by decide) ?_
  refine kk_put (ws' := [(aC, .inr (0, [.long u_1.1, .long u_1.2.1, .int u_1.2.2.1, .int u_1.2.2.2.1, .int r_5, .int 0, .int u_1.2.2.2.2.2.1, .int 0, .int 0, .int 0, .long u_1.2.2.2.2.2.2.1, .long u_1.2.2.2.2.2.2.2]))]) (ci := 0) (v := .int 0) (C := RX0) (T := TX0) (N := 12) hx hb hts iX0 tyX0_ok nmX0 hown hK hq 0 rfl rfl 9 (by decide) lk4_ rfl rfl rfl (Nat.le_of_ble_eq_true rfl) dX0_beginAnew_30 rfl (fun H locs hq => ?_)
  have hf : ((u_1.1, u_1.2.1, u_1.2.2.1, u_1.2.2.2.1, r_5, 0, u_1.2.2.2.2.2.1, 0, 0, 0, u_1.2.2.2.2.2.2.1, u_1.2.2.2.2.2.2.2) : Int64 × Int64 × Int32 × Int32 × Int32 × Int32 × Int32 × Int32 × Int32 × Int32 × Int64 × Int64) = fX0_beginAnew p1 := by
    exact ((congrArg (fun (u_1 : Int64 × Int64 × Int32 × Int32 × Int32 × Int32 × Int64 × Int64) => ((let r_5 : Int32 := fX0_distance u_1.1
  (u_1.1, u_1.2.1, u_1.2.2.1, u_1.2.2.2.1, r_5, 0, u_1.2.2.2.2.2.1, 0, 0, 0, u_1.2.2.2.2.2.2.1, u_1.2.2.2.2.2.2.2)) : Int64 × Int64 × Int32 × Int32 × Int32 × Int32 × Int32 × Int32 × Int32 × Int32 × Int64 × Int64)) eu_1.symm).trans ((congrArg (fun (r_5 : Int32) => (((u_1.1, u_1.2.1, u_1.2.2.1, u_1.2.2.2.1, r_5, 0, u_1.2.2.2.2.2.1, 0, 0, 0, u_1.2.2.2.2.2.2.1, u_1.2.2.2.2.2.2.2)) : Int64 × Int64 × Int32 × Int32 × Int32 × Int32 × Int32 × Int32 × Int32 × Int32 × Int64 × Int64)) er_5.symm))).symm
  exact kk_ev hx hb hr hlocks hK hq [0] (u_1.1, u_1.2.1, u_1.2.2.1, u_1.2.2.2.1, r_5, 0, u_1.2.2.2.2.2.1, 0, 0, 0, u_1.2.2.2.2.2.2.1, u_1.2.2.2.2.2.2.2) rfl (by decide) dX0_beginAnew_33 hf
def fX0_useStrength (p1 : Int32) (C_speed : Int64) (C_strength : Int32) : Int32 :=
  let x2_1 : Int64 := p1.toInt64 * (10 + ((if 0 < C_speed then C_speed else -C_speed) / 10000))
  let q_2 : Int64 := C_strength.toInt64 + x2_1
  let strength_3 : Int32 := (if q_2 < 1000000000 then q_2 else 1000000000).toInt32
  strength_3

set_option maxHeartbeats 4000000 in
set_option maxRecDepth 100000 in
theorem c_X0_useStrength (l : Launch) (G : va_G) (aC : Nat) (p1 : Int32) (C_place : Int64) (C_speed : Int64) (C_posture : Int32) (C_since : Int32) (C_height : Int32) (C_ticks : Int32) (C_way : Int32) (C_strength : Int32) (C_drops : Int32) (C_greatestDrop : Int32) (C_otherPlace : Int64) (C_otherSpeed : Int64) : kCv l yX0_useStrength (Cond.code yX0_useStrength cX0_useStrength 4 none :: wsL_law) ({ frames := 1, cells := 0, slots := 0, locals := 30 }) G [] [.ref aC, .int p1] [(aC, .inr (0, [.long C_place, .long C_speed, .int C_posture, .int C_since, .int C_height, .int C_ticks, .int C_way, .int C_strength, .int C_drops, .int C_greatestDrop, .long C_otherPlace, .long C_otherSpeed]))] (fun (u : Int32) => u = fX0_useStrength p1 C_speed C_strength) (fun (u : Int32) => [(aC, .inr (0, [.long C_place, .long C_speed, .int C_posture, .int C_since, .int C_height, .int C_ticks, .int C_way, .int u, .int C_drops, .int C_greatestDrop, .long C_otherPlace, .long C_otherSpeed]))]) := by
  intro sz
  refine Met.ofW (cc := cX0_useStrength) (maxL := 4) (ret := none) (by decide) rfl ?_
  intro p e s m args below meth c s₁ B hml hv
  obtain ⟨rfl, hv⟩ := hv
  obtain ⟨rfl, hK, hq, hA⟩ := kk_begin hv
  have hx := B.exec
  have hb := B.bytes
  have hr := B.returns
  have hts := atoms_spec (ws := (Cond.code yX0_useStrength cX0_useStrength 4 none :: wsL_law)) B.pre
  have hown : s.vm.findClass RX0 = some m.cls := findClass_of_methodNamed B.named
  have hlocks := B.notSynchronized
  have hsb : ∀ w ∈ wsL_law, w ∈ (Cond.code yX0_useStrength cX0_useStrength 4 none :: wsL_law) := fun _ h => List.mem_cons_of_mem _ h
  generalize va_A [(aC, .inr (0, [.long C_place, .long C_speed, .int C_posture, .int C_since, .int C_height, .int C_ticks, .int C_way, .int C_strength, .int C_drops, .int C_greatestDrop, .long C_otherPlace, .long C_otherSpeed]))] s.heap.size = A at hq hA ⊢
  have iX0 : ∀ w ∈ u_ws RX0 TX0 12, w ∈ (Cond.code yX0_useStrength cX0_useStrength 4 none :: wsL_law) := fun w h => hsb w (bin_X0 w h)
  have lk0_ := hts _ (hsb _ wd_493)
  have lk1_ := hts _ (hsb _ wd_79)
  have lk2_ := hts _ (hsb _ wd_383)
  have lk3_ := hts _ (hsb _ wd_384)
  have lk4_ := hts _ (hsb _ wd_385)
  have lk5_ := hts _ (hsb _ wd_386)
  have lk6_ := hts _ (hsb _ wd_494)
  have lk7_ := hts _ (hsb _ wd_495)
  have lk8_ := hts _ (hsb _ wd_85)
  have lk9_ := hts _ (hsb _ wd_496)
  have lk10_ := hts _ (hsb _ wd_423)
  have lk11_ := hts _ (hsb _ wd_424)
  have hl := lv_entry ([.ref aC, .int p1]) (n := 4) (Nat.le_of_ble_eq_true rfl)
  rw [lg_entry_eq]
  generalize (lg_sl ([.ref aC, .int p1]) ++ List.replicate (4 - (lg_sl ([.ref aC, .int p1])).length) Slot.unset).toArray = ls at hl ⊢
  have hl : lv_has ls 4 [(0, .ref aC), (1, .int p1)] := hl
  refine lv_iload_n hx hb dX0_useStrength_0 rfl (lv_at hl 1 rfl) ?_
  refine lv_i2l hx hb dX0_useStrength_1 rfl ?_
  refine lv_ldc2 hx hb hown lk0_ dX0_useStrength_2 ?_
  refine lv_aload_n hx hb dX0_useStrength_5 rfl (lv_at hl 0 rfl) ?_
  refine kk_get (ci := 0) (v := .long C_speed) (C := RX0) (T := TX0) (N := 12) hx hb hts iX0 hown hK hq 0 rfl rfl 1 (by decide) lk1_ rfl dX0_useStrength_6 ?_
  refine va_mabs_long hx hb (by rw [hml]; exact hl.1.symm) hown lk2_ lk3_ lk4_ lk5_ (Nat.le_of_ble_eq_true rfl) (Nat.le_of_ble_eq_true rfl) (Nat.zero_le _) (Nat.zero_le _) dX0_useStrength_9 ?_
  refine lv_ldc2 hx hb hown lk6_ dX0_useStrength_12 ?_
  refine lv_ldiv hx hb dX0_useStrength_15 (by decide) ?_
  refine lv_ladd hx hb dX0_useStrength_16 ?_
  refine lv_lmul hx hb dX0_useStrength_17 ?_
  refine lv_topl (fun x2_1 ex2_1 => ?_)
  refine lv_lstore_n (lv' := [(2, .long x2_1), (0, .ref aC), (1, .int p1)]) hx hb dX0_useStrength_18 rfl hl (by decide) rfl (fun ls hl => ?_)
  refine lv_aload_n hx hb dX0_useStrength_19 rfl (lv_at hl 1 rfl) ?_
  refine lv_ldc2 hx hb hown lk7_ dX0_useStrength_20 ?_
  refine lv_aload_n hx hb dX0_useStrength_23 rfl (lv_at hl 1 rfl) ?_
  refine kk_get (ci := 0) (v := .int C_strength) (C := RX0) (T := TX0) (N := 12) hx hb hts iX0 hown hK hq 0 rfl rfl 7 (by decide) lk8_ rfl dX0_useStrength_24 ?_
  refine lv_i2l hx hb dX0_useStrength_27 rfl ?_
  refine lv_lload_n hx hb dX0_useStrength_28 rfl (lv_at hl 0 rfl) ?_
  refine lv_ladd hx hb dX0_useStrength_29 ?_
  refine lv_topl (fun q_2 eq_2 => ?_)
  refine va_mmin_long hx hb (by rw [hml]; exact hl.1.symm) hown lk9_ lk10_ lk4_ lk11_ (Nat.le_of_ble_eq_true rfl) (Nat.le_of_ble_eq_true rfl) (Nat.zero_le _) (Nat.zero_le _) dX0_useStrength_30 ?_
  refine lv_l2i hx hb dX0_useStrength_33 rfl ?_
  refine lv_topi (fun strength_3 estrength_3 => ?_)
  refine kk_put (ws' := [(aC, .inr (0, [.long C_place, .long C_speed, .int C_posture, .int C_since, .int C_height, .int C_ticks, .int C_way, .int strength_3, .int C_drops, .int C_greatestDrop, .long C_otherPlace, .long C_otherSpeed]))]) (ci := 0) (v := .int strength_3) (C := RX0) (T := TX0) (N := 12) hx hb hts iX0 tyX0_ok nmX0 hown hK hq 0 rfl rfl 7 (by decide) lk8_ rfl rfl rfl (Nat.le_of_ble_eq_true rfl) dX0_useStrength_34 rfl (fun H locs hq => ?_)
  have hf : (strength_3 : Int32) = fX0_useStrength p1 C_speed C_strength := by
    exact ((congrArg (fun (x2_1 : Int64) => ((let q_2 : Int64 := C_strength.toInt64 + x2_1
  let strength_3 : Int32 := (if q_2 < 1000000000 then q_2 else 1000000000).toInt32
  strength_3) : Int32)) ex2_1.symm).trans ((congrArg (fun (q_2 : Int64) => ((let strength_3 : Int32 := (if q_2 < 1000000000 then q_2 else 1000000000).toInt32
  strength_3) : Int32)) eq_2.symm).trans ((congrArg (fun (strength_3 : Int32) => ((strength_3) : Int32)) estrength_3.symm)))).symm
  exact kk_ev hx hb hr hlocks hK hq [0] strength_3 rfl (by decide) dX0_useStrength_37 hf
theorem hd_X0_divided : yX0_divided.cls ≠ "java/lang/invoke/MethodHandle" ∧ yX0_divided.cls ≠ "java/lang/invoke/VarHandle" ∧ (parseMethodDescriptor yX0_divided.desc).map (fun d => d.parameters.length) = some 2 := by decide +kernel
theorem hd_X0_length : yX0_length.cls = RX0 ∧ yX0_length.cls ≠ "java/lang/invoke/MethodHandle" ∧ yX0_length.cls ≠ "java/lang/invoke/VarHandle" ∧ (parseMethodDescriptor yX0_length.desc).map (fun d => d.parameters.length) = some 1 := by decide +kernel
theorem hd_X0_useStrength : yX0_useStrength.cls = RX0 ∧ yX0_useStrength.cls ≠ "java/lang/invoke/MethodHandle" ∧ yX0_useStrength.cls ≠ "java/lang/invoke/VarHandle" ∧ (parseMethodDescriptor yX0_useStrength.desc).map (fun d => d.parameters.length) = some 1 := by decide +kernel
def fX0_bendToward (p1 : Int32) (C_speed : Int64) (C_posture : Int32) (C_strength : Int32) (fN : Nat → Int32) : Int64 × Int32 × Int32 :=
  let q_1 : Int32 := p1 - C_posture
  let q_2 : Int32 := if q_1 < (fN 4) then q_1 else (fN 4)
  let x3_3 : Int32 := if (-(fN 4)) < q_2 then q_2 else (-(fN 4))
  let r_5 : Int64 := fX0_length C_posture fN
  let u_7 : Int32 := fX0_useStrength (if 0 ≤ x3_3 then x3_3 else 0 - x3_3) C_speed C_strength
  let posture_10 : Int32 := C_posture + x3_3
  let r_12 : Int64 := fX0_length posture_10 fN
  let r_15 : Int64 := fX0_divided ((C_speed * r_5) * r_5) (r_12 * r_12)
  let speed_17 : Int64 := r_15 + ((((fN 5).toInt64) * 100) * x3_3.toInt64)
  (speed_17, posture_10, u_7)

set_option maxHeartbeats 4000000 in
set_option maxRecDepth 100000 in
theorem c_X0_bendToward (l : Launch) (G : va_G) (aC aN : Nat) (cN : ClassId) (p1 : Int32) (C_place : Int64) (C_speed : Int64) (C_posture : Int32) (C_since : Int32) (C_height : Int32) (C_ticks : Int32) (C_way : Int32) (C_strength : Int32) (C_drops : Int32) (C_greatestDrop : Int32) (C_otherPlace : Int64) (C_otherSpeed : Int64) (fN : Nat → Int32) : kCv l yX0_bendToward (Cond.code yX0_bendToward cX0_bendToward 8 none :: wsL_law) ({ frames := 2, cells := 0, slots := 0, locals := 53 }) G [(cN, .int)] [.ref aC, .int p1, .ref aN] [(aC, .inr (0, [.long C_place, .long C_speed, .int C_posture, .int C_since, .int C_height, .int C_ticks, .int C_way, .int C_strength, .int C_drops, .int C_greatestDrop, .long C_otherPlace, .long C_otherSpeed])), (aN, .inl (cN, 8, .inl fN))] (fun (u : Int64 × Int32 × Int32) => u = fX0_bendToward p1 C_speed C_posture C_strength fN) (fun (u : Int64 × Int32 × Int32) => [(aC, .inr (0, [.long C_place, .long u.1, .int u.2.1, .int C_since, .int C_height, .int C_ticks, .int C_way, .int u.2.2, .int C_drops, .int C_greatestDrop, .long C_otherPlace, .long C_otherSpeed])), (aN, .inl (cN, 8, .inl fN))]) := by
  intro sz
  refine Met.ofW (cc := cX0_bendToward) (maxL := 8) (ret := none) (by decide) rfl ?_
  intro p e s m args below meth c s₁ B hml hv
  obtain ⟨rfl, hv⟩ := hv
  obtain ⟨rfl, hK, hq, hA⟩ := kk_begin hv
  have hx := B.exec
  have hb := B.bytes
  have hr := B.returns
  have hts := atoms_spec (ws := (Cond.code yX0_bendToward cX0_bendToward 8 none :: wsL_law)) B.pre
  have hown : s.vm.findClass RX0 = some m.cls := findClass_of_methodNamed B.named
  have hlocks := B.notSynchronized
  have hsb : ∀ w ∈ wsL_law, w ∈ (Cond.code yX0_bendToward cX0_bendToward 8 none :: wsL_law) := fun _ h => List.mem_cons_of_mem _ h
  generalize va_A [(aC, .inr (0, [.long C_place, .long C_speed, .int C_posture, .int C_since, .int C_height, .int C_ticks, .int C_way, .int C_strength, .int C_drops, .int C_greatestDrop, .long C_otherPlace, .long C_otherSpeed])), (aN, .inl (cN, 8, .inl fN))] s.heap.size = A at hq hA ⊢
  have iX0 : ∀ w ∈ u_ws RX0 TX0 12, w ∈ (Cond.code yX0_bendToward cX0_bendToward 8 none :: wsL_law) := fun w h => hsb w (bin_X0 w h)
  have lk0_ := hts _ (hsb _ wd_80)
  have lk1_ := hts _ (hsb _ wd_475)
  have lk2_ := hts _ (hsb _ wd_476)
  have lk3_ := hts _ (hsb _ wd_385)
  have lk4_ := hts _ (hsb _ wd_477)
  have lk5_ := hts _ (hsb _ wd_478)
  have lk6_ := hts _ (hsb _ wd_479)
  have lk7_ := hts _ (hsb _ wd_480)
  have lk8_ := hts _ (hsb _ wd_481)
  have lk9_ := hts _ (hsb _ wd_482)
  have lk10_ := hts _ (hsb _ wd_483)
  have lk11_ := hts _ (hsb _ wd_79)
  have lk12_ := hts _ (hsb _ wd_484)
  have hl := lv_entry ([.ref aC, .int p1, .ref aN]) (n := 8) (Nat.le_of_ble_eq_true rfl)
  rw [lg_entry_eq]
  generalize (lg_sl ([.ref aC, .int p1, .ref aN]) ++ List.replicate (8 - (lg_sl ([.ref aC, .int p1, .ref aN])).length) Slot.unset).toArray = ls at hl ⊢
  have hl : lv_has ls 8 [(0, .ref aC), (1, .int p1), (2, .ref aN)] := hl
  refine lv_aload_n hx hb dX0_bendToward_0 rfl (lv_at hl 2 rfl) ?_
  refine lv_iconst (v := 4) hx hb dX0_bendToward_1 (by decide) ?_
  refine kk_iald hx hb hK hq 1 0 rfl rfl 4 rfl (by decide) (by decide) dX0_bendToward_2 ?_
  refine lv_ineg hx hb dX0_bendToward_3 ?_
  refine lv_aload_n hx hb dX0_bendToward_4 rfl (lv_at hl 2 rfl) ?_
  refine lv_iconst (v := 4) hx hb dX0_bendToward_5 (by decide) ?_
  refine kk_iald hx hb hK hq 1 0 rfl rfl 4 rfl (by decide) (by decide) dX0_bendToward_6 ?_
  refine lv_iload_n hx hb dX0_bendToward_7 rfl (lv_at hl 1 rfl) ?_
  refine lv_aload_n hx hb dX0_bendToward_8 rfl (lv_at hl 0 rfl) ?_
  refine kk_get (ci := 0) (v := .int C_posture) (C := RX0) (T := TX0) (N := 12) hx hb hts iX0 hown hK hq 0 rfl rfl 2 (by decide) lk0_ rfl dX0_bendToward_9 ?_
  refine lv_isub hx hb dX0_bendToward_12 ?_
  refine lv_topi (fun q_1 eq_1 => ?_)
  refine va_mmin hx hb (by rw [hml]; exact hl.1.symm) hown lk1_ lk2_ lk3_ lk4_ (Nat.le_of_ble_eq_true rfl) (Nat.le_of_ble_eq_true rfl) (Nat.zero_le _) (Nat.zero_le _) dX0_bendToward_13 ?_
  refine lv_topi (fun q_2 eq_2 => ?_)
  refine va_mmax hx hb (by rw [hml]; exact hl.1.symm) hown lk5_ lk6_ lk3_ lk7_ (Nat.le_of_ble_eq_true rfl) (Nat.le_of_ble_eq_true rfl) (Nat.zero_le _) (Nat.zero_le _) dX0_bendToward_16 ?_
  refine lv_topi (fun x3_3 ex3_3 => ?_)
  refine lv_istore_n (lv' := [(3, .int x3_3), (0, .ref aC), (1, .int p1), (2, .ref aN)]) hx hb dX0_bendToward_19 rfl hl (by decide) rfl (fun ls hl => ?_)
  refine lv_aload_n hx hb dX0_bendToward_20 rfl (lv_at hl 1 rfl) ?_
  refine lv_aload_n hx hb dX0_bendToward_21 rfl (lv_at hl 3 rfl) ?_
  refine kk_Vl (As := [.ref aN]) (rest := []) (wr := []) ⟨hx, hb, hml, hown, hts⟩ (c_X0_length l G aC aN cN C_place C_speed C_posture C_since C_height C_ticks C_way C_strength C_drops C_greatestDrop C_otherPlace C_otherSpeed fN) (kk_cwV 1 hts hsb wd_485 wd_486 wd_487 wd_30 wd_488 rfl rfl hd_X0_length ⟨Nat.le_of_ble_eq_true rfl, Nat.le_of_ble_eq_true rfl⟩) hA hK hq [0, 1] [] [0] rfl rfl rfl (by decide) (by decide) (by decide) 0 0 rfl rfl rfl rfl hl.1 rfl (Nat.le_of_ble_eq_true rfl) dX0_bendToward_22 ⟨Nat.zero_le _, Nat.zero_le _⟩ (fun r_5 u_4 H locs h_6 hq => ?_)
  have er_5 := h_6
  have hq : kAt G A s [(aC, .inr (0, [.long C_place, .long C_speed, .int C_posture, .int C_since, .int C_height, .int C_ticks, .int C_way, .int C_strength, .int C_drops, .int C_greatestDrop, .long C_otherPlace, .long C_otherSpeed])), (aN, .inl (cN, 8, .inl fN))] H locs := hq
  refine lv_lstore (lv' := [(4, .long r_5), (3, .int x3_3), (0, .ref aC), (1, .int p1), (2, .ref aN)]) hx hb dX0_bendToward_25 hl (by decide) rfl (fun ls hl => ?_)
  refine lv_aload_n hx hb dX0_bendToward_27 rfl (lv_at hl 2 rfl) ?_
  refine lv_iload_n hx hb dX0_bendToward_28 rfl (lv_at hl 1 rfl) ?_
  refine va_mabs hx hb (by rw [hml]; exact hl.1.symm) hown lk8_ lk9_ lk3_ lk10_ (Nat.le_of_ble_eq_true rfl) (Nat.le_of_ble_eq_true rfl) (Nat.zero_le _) (Nat.zero_le _) dX0_bendToward_29 ?_
  refine kk_Vv (As := [.int (if 0 ≤ x3_3 then x3_3 else 0 - x3_3)]) (rest := []) (wr := [(aN, .inl (cN, 8, .inl fN))]) ⟨hx, hb, hml, hown, hts⟩ (c_X0_useStrength l G aC (if 0 ≤ x3_3 then x3_3 else 0 - x3_3) C_place C_speed C_posture C_since C_height C_ticks C_way C_strength C_drops C_greatestDrop C_otherPlace C_otherSpeed) (kk_cwV 1 hts hsb wd_489 wd_490 wd_491 wd_30 wd_492 rfl rfl hd_X0_useStrength ⟨Nat.le_of_ble_eq_true rfl, Nat.le_of_ble_eq_true rfl⟩) hA hK hq [0] [1] [] rfl rfl rfl (by decide) (by decide) (by decide) 0 0 rfl rfl rfl rfl hl.1 rfl (Nat.le_of_ble_eq_true rfl) dX0_bendToward_32 ⟨Nat.zero_le _, Nat.zero_le _⟩ (fun u_7 H locs h_9 hq => ?_)
  have eu_7 := h_9
  have hq : kAt G A s [(aN, .inl (cN, 8, .inl fN)), (aC, .inr (0, [.long C_place, .long C_speed, .int C_posture, .int C_since, .int C_height, .int C_ticks, .int C_way, .int u_7, .int C_drops, .int C_greatestDrop, .long C_otherPlace, .long C_otherSpeed]))] H locs := hq
  refine lv_aload_n hx hb dX0_bendToward_35 rfl (lv_at hl 2 rfl) ?_
  refine lv_dup hx hb dX0_bendToward_36 rfl ?_
  refine kk_get (ci := 0) (v := .int C_posture) (C := RX0) (T := TX0) (N := 12) hx hb hts iX0 hown hK hq 1 rfl rfl 2 (by decide) lk0_ rfl dX0_bendToward_37 ?_
  refine lv_iload_n hx hb dX0_bendToward_40 rfl (lv_at hl 1 rfl) ?_
  refine lv_iadd hx hb dX0_bendToward_41 ?_
  refine lv_topi (fun posture_10 eposture_10 => ?_)
  refine kk_put (ws' := [(aN, .inl (cN, 8, .inl fN)), (aC, .inr (0, [.long C_place, .long C_speed, .int posture_10, .int C_since, .int C_height, .int C_ticks, .int C_way, .int u_7, .int C_drops, .int C_greatestDrop, .long C_otherPlace, .long C_otherSpeed]))]) (ci := 0) (v := .int posture_10) (C := RX0) (T := TX0) (N := 12) hx hb hts iX0 tyX0_ok nmX0 hown hK hq 1 rfl rfl 2 (by decide) lk0_ rfl rfl rfl (Nat.le_of_ble_eq_true rfl) dX0_bendToward_42 rfl (fun H locs hq => ?_)
  refine lv_aload_n hx hb dX0_bendToward_45 rfl (lv_at hl 2 rfl) ?_
  refine lv_aload_n hx hb dX0_bendToward_46 rfl (lv_at hl 4 rfl) ?_
  refine kk_Vl (As := [.ref aN]) (rest := []) (wr := []) ⟨hx, hb, hml, hown, hts⟩ (c_X0_length l G aC aN cN C_place C_speed posture_10 C_since C_height C_ticks C_way u_7 C_drops C_greatestDrop C_otherPlace C_otherSpeed fN) (kk_cwV 1 hts hsb wd_485 wd_486 wd_487 wd_30 wd_488 rfl rfl hd_X0_length ⟨Nat.le_of_ble_eq_true rfl, Nat.le_of_ble_eq_true rfl⟩) hA hK hq [1, 0] [] [0] rfl rfl rfl (by decide) (by decide) (by decide) 0 0 rfl rfl rfl rfl hl.1 rfl (Nat.le_of_ble_eq_true rfl) dX0_bendToward_47 ⟨Nat.zero_le _, Nat.zero_le _⟩ (fun r_12 u_11 H locs h_13 hq => ?_)
  have er_12 := h_13
  have hq : kAt G A s [(aC, .inr (0, [.long C_place, .long C_speed, .int posture_10, .int C_since, .int C_height, .int C_ticks, .int C_way, .int u_7, .int C_drops, .int C_greatestDrop, .long C_otherPlace, .long C_otherSpeed])), (aN, .inl (cN, 8, .inl fN))] H locs := hq
  refine lv_lstore (lv' := [(6, .long r_12), (4, .long r_5), (3, .int x3_3), (0, .ref aC), (1, .int p1), (2, .ref aN)]) hx hb dX0_bendToward_50 hl (by decide) rfl (fun ls hl => ?_)
  refine lv_aload_n hx hb dX0_bendToward_52 rfl (lv_at hl 3 rfl) ?_
  refine lv_aload_n hx hb dX0_bendToward_53 rfl (lv_at hl 3 rfl) ?_
  refine kk_get (ci := 0) (v := .long C_speed) (C := RX0) (T := TX0) (N := 12) hx hb hts iX0 hown hK hq 0 rfl rfl 1 (by decide) lk11_ rfl dX0_bendToward_54 ?_
  refine lv_lload hx hb dX0_bendToward_57 (lv_at hl 1 rfl) ?_
  refine lv_lmul hx hb dX0_bendToward_59 ?_
  refine lv_lload hx hb dX0_bendToward_60 (lv_at hl 1 rfl) ?_
  refine lv_lmul hx hb dX0_bendToward_62 ?_
  refine lv_lload hx hb dX0_bendToward_63 (lv_at hl 0 rfl) ?_
  refine lv_lload hx hb dX0_bendToward_65 (lv_at hl 0 rfl) ?_
  refine lv_lmul hx hb dX0_bendToward_67 ?_
  refine kk_Sl (As := [.long ((C_speed * r_5) * r_5), .long (r_12 * r_12)]) (rest := [.ref aC]) (wr := [(aC, .inr (0, [.long C_place, .long C_speed, .int posture_10, .int C_since, .int C_height, .int C_ticks, .int C_way, .int u_7, .int C_drops, .int C_greatestDrop, .long C_otherPlace, .long C_otherSpeed])), (aN, .inl (cN, 8, .inl fN))]) ⟨hx, hb, hml, hown, hts⟩ (c_X0_divided l G ((C_speed * r_5) * r_5) (r_12 * r_12)) (kk_cwS 2 hts hsb wd_497 wd_498 wd_30 wd_499 rfl rfl hd_X0_divided ⟨Nat.le_of_ble_eq_true rfl, Nat.le_of_ble_eq_true rfl⟩) hA hK hq [] [0, 1] [] rfl rfl rfl (by decide) (by decide) (by decide) rfl hl.1 rfl (Nat.le_of_ble_eq_true rfl) dX0_bendToward_68 ⟨Nat.zero_le _, Nat.zero_le _⟩ (fun r_15 u_14 H locs h_16 hq => ?_)
  have er_15 := h_16
  have hq : kAt G A s [(aC, .inr (0, [.long C_place, .long C_speed, .int posture_10, .int C_since, .int C_height, .int C_ticks, .int C_way, .int u_7, .int C_drops, .int C_greatestDrop, .long C_otherPlace, .long C_otherSpeed])), (aN, .inl (cN, 8, .inl fN))] H locs := hq
  refine kk_put (ws' := [(aC, .inr (0, [.long C_place, .long r_15, .int posture_10, .int C_since, .int C_height, .int C_ticks, .int C_way, .int u_7, .int C_drops, .int C_greatestDrop, .long C_otherPlace, .long C_otherSpeed])), (aN, .inl (cN, 8, .inl fN))]) (ci := 0) (v := .long r_15) (C := RX0) (T := TX0) (N := 12) hx hb hts iX0 tyX0_ok nmX0 hown hK hq 0 rfl rfl 1 (by decide) lk11_ rfl rfl rfl (Nat.le_of_ble_eq_true rfl) dX0_bendToward_71 rfl (fun H locs hq => ?_)
  refine lv_aload_n hx hb dX0_bendToward_74 rfl (lv_at hl 3 rfl) ?_
  refine lv_dup hx hb dX0_bendToward_75 rfl ?_
  refine kk_get (ci := 0) (v := .long r_15) (C := RX0) (T := TX0) (N := 12) hx hb hts iX0 hown hK hq 0 rfl rfl 1 (by decide) lk11_ rfl dX0_bendToward_76 ?_
  refine lv_aload_n hx hb dX0_bendToward_79 rfl (lv_at hl 5 rfl) ?_
  refine lv_iconst (v := 5) hx hb dX0_bendToward_80 (by decide) ?_
  refine kk_iald hx hb hK hq 1 0 rfl rfl 5 rfl (by decide) (by decide) dX0_bendToward_81 ?_
  refine lv_i2l hx hb dX0_bendToward_82 rfl ?_
  refine lv_ldc2 hx hb hown lk12_ dX0_bendToward_83 ?_
  refine lv_lmul hx hb dX0_bendToward_86 ?_
  refine lv_iload_n hx hb dX0_bendToward_87 rfl (lv_at hl 2 rfl) ?_
  refine lv_i2l hx hb dX0_bendToward_88 rfl ?_
  refine lv_lmul hx hb dX0_bendToward_89 ?_
  refine lv_ladd hx hb dX0_bendToward_90 ?_
  refine lv_topl (fun speed_17 espeed_17 => ?_)
  refine kk_put (ws' := [(aC, .inr (0, [.long C_place, .long speed_17, .int posture_10, .int C_since, .int C_height, .int C_ticks, .int C_way, .int u_7, .int C_drops, .int C_greatestDrop, .long C_otherPlace, .long C_otherSpeed])), (aN, .inl (cN, 8, .inl fN))]) (ci := 0) (v := .long speed_17) (C := RX0) (T := TX0) (N := 12) hx hb hts iX0 tyX0_ok nmX0 hown hK hq 0 rfl rfl 1 (by decide) lk11_ rfl rfl rfl (Nat.le_of_ble_eq_true rfl) dX0_bendToward_91 rfl (fun H locs hq => ?_)
  have hf : ((speed_17, posture_10, u_7) : Int64 × Int32 × Int32) = fX0_bendToward p1 C_speed C_posture C_strength fN := by
    exact ((congrArg (fun (q_1 : Int32) => ((let q_2 : Int32 := if q_1 < (fN 4) then q_1 else (fN 4)
  let x3_3 : Int32 := if (-(fN 4)) < q_2 then q_2 else (-(fN 4))
  let r_5 : Int64 := fX0_length C_posture fN
  let u_7 : Int32 := fX0_useStrength (if 0 ≤ x3_3 then x3_3 else 0 - x3_3) C_speed C_strength
  let posture_10 : Int32 := C_posture + x3_3
  let r_12 : Int64 := fX0_length posture_10 fN
  let r_15 : Int64 := fX0_divided ((C_speed * r_5) * r_5) (r_12 * r_12)
  let speed_17 : Int64 := r_15 + ((((fN 5).toInt64) * 100) * x3_3.toInt64)
  (speed_17, posture_10, u_7)) : Int64 × Int32 × Int32)) eq_1.symm).trans ((congrArg (fun (q_2 : Int32) => ((let x3_3 : Int32 := if (-(fN 4)) < q_2 then q_2 else (-(fN 4))
  let r_5 : Int64 := fX0_length C_posture fN
  let u_7 : Int32 := fX0_useStrength (if 0 ≤ x3_3 then x3_3 else 0 - x3_3) C_speed C_strength
  let posture_10 : Int32 := C_posture + x3_3
  let r_12 : Int64 := fX0_length posture_10 fN
  let r_15 : Int64 := fX0_divided ((C_speed * r_5) * r_5) (r_12 * r_12)
  let speed_17 : Int64 := r_15 + ((((fN 5).toInt64) * 100) * x3_3.toInt64)
  (speed_17, posture_10, u_7)) : Int64 × Int32 × Int32)) eq_2.symm).trans ((congrArg (fun (x3_3 : Int32) => ((let r_5 : Int64 := fX0_length C_posture fN
  let u_7 : Int32 := fX0_useStrength (if 0 ≤ x3_3 then x3_3 else 0 - x3_3) C_speed C_strength
  let posture_10 : Int32 := C_posture + x3_3
  let r_12 : Int64 := fX0_length posture_10 fN
  let r_15 : Int64 := fX0_divided ((C_speed * r_5) * r_5) (r_12 * r_12)
  let speed_17 : Int64 := r_15 + ((((fN 5).toInt64) * 100) * x3_3.toInt64)
  (speed_17, posture_10, u_7)) : Int64 × Int32 × Int32)) ex3_3.symm).trans ((congrArg (fun (r_5 : Int64) => ((let u_7 : Int32 := fX0_useStrength (if 0 ≤ x3_3 then x3_3 else 0 - x3_3) C_speed C_strength
  let posture_10 : Int32 := C_posture + x3_3
  let r_12 : Int64 := fX0_length posture_10 fN
  let r_15 : Int64 := fX0_divided ((C_speed * r_5) * r_5) (r_12 * r_12)
  let speed_17 : Int64 := r_15 + ((((fN 5).toInt64) * 100) * x3_3.toInt64)
  (speed_17, posture_10, u_7)) : Int64 × Int32 × Int32)) er_5.symm).trans ((congrArg (fun (u_7 : Int32) => ((let posture_10 : Int32 := C_posture + x3_3
  let r_12 : Int64 := fX0_length posture_10 fN
  let r_15 : Int64 := fX0_divided ((C_speed * r_5) * r_5) (r_12 * r_12)
  let speed_17 : Int64 := r_15 + ((((fN 5).toInt64) * 100) * x3_3.toInt64)
  (speed_17, posture_10, u_7)) : Int64 × Int32 × Int32)) eu_7.symm).trans ((congrArg (fun (posture_10 : Int32) => ((let r_12 : Int64 := fX0_length posture_10 fN
  let r_15 : Int64 := fX0_divided ((C_speed * r_5) * r_5) (r_12 * r_12)
  let speed_17 : Int64 := r_15 + ((((fN 5).toInt64) * 100) * x3_3.toInt64)
  (speed_17, posture_10, u_7)) : Int64 × Int32 × Int32)) eposture_10.symm).trans ((congrArg (fun (r_12 : Int64) => ((let r_15 : Int64 := fX0_divided ((C_speed * r_5) * r_5) (r_12 * r_12)
  let speed_17 : Int64 := r_15 + ((((fN 5).toInt64) * 100) * x3_3.toInt64)
  (speed_17, posture_10, u_7)) : Int64 × Int32 × Int32)) er_12.symm).trans ((congrArg (fun (r_15 : Int64) => ((let speed_17 : Int64 := r_15 + ((((fN 5).toInt64) * 100) * x3_3.toInt64)
  (speed_17, posture_10, u_7)) : Int64 × Int32 × Int32)) er_15.symm).trans ((congrArg (fun (speed_17 : Int64) => (((speed_17, posture_10, u_7)) : Int64 × Int32 × Int32)) espeed_17.symm)))))))))).symm
  exact kk_ev hx hb hr hlocks hK hq [0, 1] (speed_17, posture_10, u_7) rfl (by decide) dX0_bendToward_94 hf
def fX0_drawBoth (C_place : Int64) (C_speed : Int64) (C_posture : Int32) (C_otherPlace : Int64) (C_otherSpeed : Int64) (fN : Nat → Int32) : Int64 × Int64 :=
  let x2_1 : Int64 := (((fN 6).toInt64) * (C_otherPlace - C_place)) / 1000
  let r_3 : Int64 := fX0_length C_posture fN
  let r_6 : Int64 := fX0_divided (((fN 1).toInt64) * C_place) r_3
  let speed_8 : Int64 := C_speed + (x2_1 - r_6)
  let r_10 : Int64 := fX0_divided (((fN 1).toInt64) * C_otherPlace) ((fN 7).toInt64)
  let otherSpeed_12 : Int64 := C_otherSpeed - (x2_1 + r_10)
  let speed_13 : Int64 := speed_8 - ((speed_8 * ((fN 2).toInt64)) / 1000)
  let otherSpeed_14 : Int64 := otherSpeed_12 - ((otherSpeed_12 * ((fN 2).toInt64)) / 1000)
  (speed_13, otherSpeed_14)

set_option maxHeartbeats 4000000 in
set_option maxRecDepth 100000 in
theorem c_X0_drawBoth (l : Launch) (G : va_G) (aC aN : Nat) (cN : ClassId) (C_place : Int64) (C_speed : Int64) (C_posture : Int32) (C_since : Int32) (C_height : Int32) (C_ticks : Int32) (C_way : Int32) (C_strength : Int32) (C_drops : Int32) (C_greatestDrop : Int32) (C_otherPlace : Int64) (C_otherSpeed : Int64) (fN : Nat → Int32) : kCv l yX0_drawBoth (Cond.code yX0_drawBoth cX0_drawBoth 4 none :: wsL_law) ({ frames := 1, cells := 0, slots := 0, locals := 23 }) G [(cN, .int)] [.ref aC, .ref aN] [(aC, .inr (0, [.long C_place, .long C_speed, .int C_posture, .int C_since, .int C_height, .int C_ticks, .int C_way, .int C_strength, .int C_drops, .int C_greatestDrop, .long C_otherPlace, .long C_otherSpeed])), (aN, .inl (cN, 8, .inl fN))] (fun (u : Int64 × Int64) => u = fX0_drawBoth C_place C_speed C_posture C_otherPlace C_otherSpeed fN) (fun (u : Int64 × Int64) => [(aC, .inr (0, [.long C_place, .long u.1, .int C_posture, .int C_since, .int C_height, .int C_ticks, .int C_way, .int C_strength, .int C_drops, .int C_greatestDrop, .long C_otherPlace, .long u.2])), (aN, .inl (cN, 8, .inl fN))]) := by
  intro sz
  refine Met.ofW (cc := cX0_drawBoth) (maxL := 4) (ret := none) (by decide) rfl ?_
  intro p e s m args below meth c s₁ B hml hv
  obtain ⟨rfl, hv⟩ := hv
  obtain ⟨rfl, hK, hq, hA⟩ := kk_begin hv
  have hx := B.exec
  have hb := B.bytes
  have hr := B.returns
  have hts := atoms_spec (ws := (Cond.code yX0_drawBoth cX0_drawBoth 4 none :: wsL_law)) B.pre
  have hown : s.vm.findClass RX0 = some m.cls := findClass_of_methodNamed B.named
  have hlocks := B.notSynchronized
  have hsb : ∀ w ∈ wsL_law, w ∈ (Cond.code yX0_drawBoth cX0_drawBoth 4 none :: wsL_law) := fun _ h => List.mem_cons_of_mem _ h
  generalize va_A [(aC, .inr (0, [.long C_place, .long C_speed, .int C_posture, .int C_since, .int C_height, .int C_ticks, .int C_way, .int C_strength, .int C_drops, .int C_greatestDrop, .long C_otherPlace, .long C_otherSpeed])), (aN, .inl (cN, 8, .inl fN))] s.heap.size = A at hq hA ⊢
  have iX0 : ∀ w ∈ u_ws RX0 TX0 12, w ∈ (Cond.code yX0_drawBoth cX0_drawBoth 4 none :: wsL_law) := fun w h => hsb w (bin_X0 w h)
  have lk0_ := hts _ (hsb _ wd_88)
  have lk1_ := hts _ (hsb _ wd_78)
  have lk2_ := hts _ (hsb _ wd_504)
  have lk3_ := hts _ (hsb _ wd_79)
  have lk4_ := hts _ (hsb _ wd_89)
  have hl := lv_entry ([.ref aC, .ref aN]) (n := 4) (Nat.le_of_ble_eq_true rfl)
  rw [lg_entry_eq]
  generalize (lg_sl ([.ref aC, .ref aN]) ++ List.replicate (4 - (lg_sl ([.ref aC, .ref aN])).length) Slot.unset).toArray = ls at hl ⊢
  have hl : lv_has ls 4 [(0, .ref aC), (1, .ref aN)] := hl
  refine lv_aload_n hx hb dX0_drawBoth_0 rfl (lv_at hl 1 rfl) ?_
  refine lv_bipush (v := 6) hx hb dX0_drawBoth_1 (by decide) ?_
  refine kk_iald hx hb hK hq 1 0 rfl rfl 6 rfl (by decide) (by decide) dX0_drawBoth_3 ?_
  refine lv_i2l hx hb dX0_drawBoth_4 rfl ?_
  refine lv_aload_n hx hb dX0_drawBoth_5 rfl (lv_at hl 0 rfl) ?_
  refine kk_get (ci := 0) (v := .long C_otherPlace) (C := RX0) (T := TX0) (N := 12) hx hb hts iX0 hown hK hq 0 rfl rfl 10 (by decide) lk0_ rfl dX0_drawBoth_6 ?_
  refine lv_aload_n hx hb dX0_drawBoth_9 rfl (lv_at hl 0 rfl) ?_
  refine kk_get (ci := 0) (v := .long C_place) (C := RX0) (T := TX0) (N := 12) hx hb hts iX0 hown hK hq 0 rfl rfl 0 (by decide) lk1_ rfl dX0_drawBoth_10 ?_
  refine lv_lsub hx hb dX0_drawBoth_13 ?_
  refine lv_lmul hx hb dX0_drawBoth_14 ?_
  refine lv_ldc2 hx hb hown lk2_ dX0_drawBoth_15 ?_
  refine lv_ldiv hx hb dX0_drawBoth_18 (by decide) ?_
  refine lv_topl (fun x2_1 ex2_1 => ?_)
  refine lv_lstore_n (lv' := [(2, .long x2_1), (0, .ref aC), (1, .ref aN)]) hx hb dX0_drawBoth_19 rfl hl (by decide) rfl (fun ls hl => ?_)
  refine lv_aload_n hx hb dX0_drawBoth_20 rfl (lv_at hl 1 rfl) ?_
  refine lv_dup hx hb dX0_drawBoth_21 rfl ?_
  refine kk_get (ci := 0) (v := .long C_speed) (C := RX0) (T := TX0) (N := 12) hx hb hts iX0 hown hK hq 0 rfl rfl 1 (by decide) lk3_ rfl dX0_drawBoth_22 ?_
  refine lv_lload_n hx hb dX0_drawBoth_25 rfl (lv_at hl 0 rfl) ?_
  refine lv_aload_n hx hb dX0_drawBoth_26 rfl (lv_at hl 2 rfl) ?_
  refine lv_iconst (v := 1) hx hb dX0_drawBoth_27 (by decide) ?_
  refine kk_iald hx hb hK hq 1 0 rfl rfl 1 rfl (by decide) (by decide) dX0_drawBoth_28 ?_
  refine lv_i2l hx hb dX0_drawBoth_29 rfl ?_
  refine lv_aload_n hx hb dX0_drawBoth_30 rfl (lv_at hl 1 rfl) ?_
  refine kk_get (ci := 0) (v := .long C_place) (C := RX0) (T := TX0) (N := 12) hx hb hts iX0 hown hK hq 0 rfl rfl 0 (by decide) lk1_ rfl dX0_drawBoth_31 ?_
  refine lv_lmul hx hb dX0_drawBoth_34 ?_
  refine lv_aload_n hx hb dX0_drawBoth_35 rfl (lv_at hl 1 rfl) ?_
  refine lv_aload_n hx hb dX0_drawBoth_36 rfl (lv_at hl 2 rfl) ?_
  refine kk_Vl (As := [.ref aN]) (rest := [.long (((fN 1).toInt64) * C_place), .long x2_1, .long C_speed, .ref aC]) (wr := []) ⟨hx, hb, hml, hown, hts⟩ (c_X0_length l G aC aN cN C_place C_speed C_posture C_since C_height C_ticks C_way C_strength C_drops C_greatestDrop C_otherPlace C_otherSpeed fN) (kk_cwV 1 hts hsb wd_485 wd_486 wd_487 wd_30 wd_488 rfl rfl hd_X0_length ⟨Nat.le_of_ble_eq_true rfl, Nat.le_of_ble_eq_true rfl⟩) hA hK hq [0, 1] [] [0] rfl rfl rfl (by decide) (by decide) (by decide) 0 0 rfl rfl rfl rfl hl.1 rfl (Nat.le_of_ble_eq_true rfl) dX0_drawBoth_37 ⟨Nat.zero_le _, Nat.zero_le _⟩ (fun r_3 u_2 H locs h_4 hq => ?_)
  have er_3 := h_4
  have hq : kAt G A s [(aC, .inr (0, [.long C_place, .long C_speed, .int C_posture, .int C_since, .int C_height, .int C_ticks, .int C_way, .int C_strength, .int C_drops, .int C_greatestDrop, .long C_otherPlace, .long C_otherSpeed])), (aN, .inl (cN, 8, .inl fN))] H locs := hq
  refine kk_Sl (As := [.long (((fN 1).toInt64) * C_place), .long r_3]) (rest := [.long x2_1, .long C_speed, .ref aC]) (wr := [(aC, .inr (0, [.long C_place, .long C_speed, .int C_posture, .int C_since, .int C_height, .int C_ticks, .int C_way, .int C_strength, .int C_drops, .int C_greatestDrop, .long C_otherPlace, .long C_otherSpeed])), (aN, .inl (cN, 8, .inl fN))]) ⟨hx, hb, hml, hown, hts⟩ (c_X0_divided l G (((fN 1).toInt64) * C_place) r_3) (kk_cwS 2 hts hsb wd_497 wd_498 wd_30 wd_499 rfl rfl hd_X0_divided ⟨Nat.le_of_ble_eq_true rfl, Nat.le_of_ble_eq_true rfl⟩) hA hK hq [] [0, 1] [] rfl rfl rfl (by decide) (by decide) (by decide) rfl hl.1 rfl (Nat.le_of_ble_eq_true rfl) dX0_drawBoth_40 ⟨Nat.zero_le _, Nat.zero_le _⟩ (fun r_6 u_5 H locs h_7 hq => ?_)
  have er_6 := h_7
  have hq : kAt G A s [(aC, .inr (0, [.long C_place, .long C_speed, .int C_posture, .int C_since, .int C_height, .int C_ticks, .int C_way, .int C_strength, .int C_drops, .int C_greatestDrop, .long C_otherPlace, .long C_otherSpeed])), (aN, .inl (cN, 8, .inl fN))] H locs := hq
  refine lv_lsub hx hb dX0_drawBoth_43 ?_
  refine lv_ladd hx hb dX0_drawBoth_44 ?_
  refine lv_topl (fun speed_8 espeed_8 => ?_)
  refine kk_put (ws' := [(aC, .inr (0, [.long C_place, .long speed_8, .int C_posture, .int C_since, .int C_height, .int C_ticks, .int C_way, .int C_strength, .int C_drops, .int C_greatestDrop, .long C_otherPlace, .long C_otherSpeed])), (aN, .inl (cN, 8, .inl fN))]) (ci := 0) (v := .long speed_8) (C := RX0) (T := TX0) (N := 12) hx hb hts iX0 tyX0_ok nmX0 hown hK hq 0 rfl rfl 1 (by decide) lk3_ rfl rfl rfl (Nat.le_of_ble_eq_true rfl) dX0_drawBoth_45 rfl (fun H locs hq => ?_)
  refine lv_aload_n hx hb dX0_drawBoth_48 rfl (lv_at hl 1 rfl) ?_
  refine lv_dup hx hb dX0_drawBoth_49 rfl ?_
  refine kk_get (ci := 0) (v := .long C_otherSpeed) (C := RX0) (T := TX0) (N := 12) hx hb hts iX0 hown hK hq 0 rfl rfl 11 (by decide) lk4_ rfl dX0_drawBoth_50 ?_
  refine lv_lload_n hx hb dX0_drawBoth_53 rfl (lv_at hl 0 rfl) ?_
  refine lv_aload_n hx hb dX0_drawBoth_54 rfl (lv_at hl 2 rfl) ?_
  refine lv_iconst (v := 1) hx hb dX0_drawBoth_55 (by decide) ?_
  refine kk_iald hx hb hK hq 1 0 rfl rfl 1 rfl (by decide) (by decide) dX0_drawBoth_56 ?_
  refine lv_i2l hx hb dX0_drawBoth_57 rfl ?_
  refine lv_aload_n hx hb dX0_drawBoth_58 rfl (lv_at hl 1 rfl) ?_
  refine kk_get (ci := 0) (v := .long C_otherPlace) (C := RX0) (T := TX0) (N := 12) hx hb hts iX0 hown hK hq 0 rfl rfl 10 (by decide) lk0_ rfl dX0_drawBoth_59 ?_
  refine lv_lmul hx hb dX0_drawBoth_62 ?_
  refine lv_aload_n hx hb dX0_drawBoth_63 rfl (lv_at hl 2 rfl) ?_
  refine lv_bipush (v := 7) hx hb dX0_drawBoth_64 (by decide) ?_
  refine kk_iald hx hb hK hq 1 0 rfl rfl 7 rfl (by decide) (by decide) dX0_drawBoth_66 ?_
  refine lv_i2l hx hb dX0_drawBoth_67 rfl ?_
  refine kk_Sl (As := [.long (((fN 1).toInt64) * C_otherPlace), .long ((fN 7).toInt64)]) (rest := [.long x2_1, .long C_otherSpeed, .ref aC]) (wr := [(aC, .inr (0, [.long C_place, .long speed_8, .int C_posture, .int C_since, .int C_height, .int C_ticks, .int C_way, .int C_strength, .int C_drops, .int C_greatestDrop, .long C_otherPlace, .long C_otherSpeed])), (aN, .inl (cN, 8, .inl fN))]) ⟨hx, hb, hml, hown, hts⟩ (c_X0_divided l G (((fN 1).toInt64) * C_otherPlace) ((fN 7).toInt64)) (kk_cwS 2 hts hsb wd_497 wd_498 wd_30 wd_499 rfl rfl hd_X0_divided ⟨Nat.le_of_ble_eq_true rfl, Nat.le_of_ble_eq_true rfl⟩) hA hK hq [] [0, 1] [] rfl rfl rfl (by decide) (by decide) (by decide) rfl hl.1 rfl (Nat.le_of_ble_eq_true rfl) dX0_drawBoth_68 ⟨Nat.zero_le _, Nat.zero_le _⟩ (fun r_10 u_9 H locs h_11 hq => ?_)
  have er_10 := h_11
  have hq : kAt G A s [(aC, .inr (0, [.long C_place, .long speed_8, .int C_posture, .int C_since, .int C_height, .int C_ticks, .int C_way, .int C_strength, .int C_drops, .int C_greatestDrop, .long C_otherPlace, .long C_otherSpeed])), (aN, .inl (cN, 8, .inl fN))] H locs := hq
  refine lv_ladd hx hb dX0_drawBoth_71 ?_
  refine lv_lsub hx hb dX0_drawBoth_72 ?_
  refine lv_topl (fun otherSpeed_12 eotherSpeed_12 => ?_)
  refine kk_put (ws' := [(aC, .inr (0, [.long C_place, .long speed_8, .int C_posture, .int C_since, .int C_height, .int C_ticks, .int C_way, .int C_strength, .int C_drops, .int C_greatestDrop, .long C_otherPlace, .long otherSpeed_12])), (aN, .inl (cN, 8, .inl fN))]) (ci := 0) (v := .long otherSpeed_12) (C := RX0) (T := TX0) (N := 12) hx hb hts iX0 tyX0_ok nmX0 hown hK hq 0 rfl rfl 11 (by decide) lk4_ rfl rfl rfl (Nat.le_of_ble_eq_true rfl) dX0_drawBoth_73 rfl (fun H locs hq => ?_)
  refine lv_aload_n hx hb dX0_drawBoth_76 rfl (lv_at hl 1 rfl) ?_
  refine lv_dup hx hb dX0_drawBoth_77 rfl ?_
  refine kk_get (ci := 0) (v := .long speed_8) (C := RX0) (T := TX0) (N := 12) hx hb hts iX0 hown hK hq 0 rfl rfl 1 (by decide) lk3_ rfl dX0_drawBoth_78 ?_
  refine lv_aload_n hx hb dX0_drawBoth_81 rfl (lv_at hl 1 rfl) ?_
  refine kk_get (ci := 0) (v := .long speed_8) (C := RX0) (T := TX0) (N := 12) hx hb hts iX0 hown hK hq 0 rfl rfl 1 (by decide) lk3_ rfl dX0_drawBoth_82 ?_
  refine lv_aload_n hx hb dX0_drawBoth_85 rfl (lv_at hl 2 rfl) ?_
  refine lv_iconst (v := 2) hx hb dX0_drawBoth_86 (by decide) ?_
  refine kk_iald hx hb hK hq 1 0 rfl rfl 2 rfl (by decide) (by decide) dX0_drawBoth_87 ?_
  refine lv_i2l hx hb dX0_drawBoth_88 rfl ?_
  refine lv_lmul hx hb dX0_drawBoth_89 ?_
  refine lv_ldc2 hx hb hown lk2_ dX0_drawBoth_90 ?_
  refine lv_ldiv hx hb dX0_drawBoth_93 (by decide) ?_
  refine lv_lsub hx hb dX0_drawBoth_94 ?_
  refine lv_topl (fun speed_13 espeed_13 => ?_)
  refine kk_put (ws' := [(aC, .inr (0, [.long C_place, .long speed_13, .int C_posture, .int C_since, .int C_height, .int C_ticks, .int C_way, .int C_strength, .int C_drops, .int C_greatestDrop, .long C_otherPlace, .long otherSpeed_12])), (aN, .inl (cN, 8, .inl fN))]) (ci := 0) (v := .long speed_13) (C := RX0) (T := TX0) (N := 12) hx hb hts iX0 tyX0_ok nmX0 hown hK hq 0 rfl rfl 1 (by decide) lk3_ rfl rfl rfl (Nat.le_of_ble_eq_true rfl) dX0_drawBoth_95 rfl (fun H locs hq => ?_)
  refine lv_aload_n hx hb dX0_drawBoth_98 rfl (lv_at hl 1 rfl) ?_
  refine lv_dup hx hb dX0_drawBoth_99 rfl ?_
  refine kk_get (ci := 0) (v := .long otherSpeed_12) (C := RX0) (T := TX0) (N := 12) hx hb hts iX0 hown hK hq 0 rfl rfl 11 (by decide) lk4_ rfl dX0_drawBoth_100 ?_
  refine lv_aload_n hx hb dX0_drawBoth_103 rfl (lv_at hl 1 rfl) ?_
  refine kk_get (ci := 0) (v := .long otherSpeed_12) (C := RX0) (T := TX0) (N := 12) hx hb hts iX0 hown hK hq 0 rfl rfl 11 (by decide) lk4_ rfl dX0_drawBoth_104 ?_
  refine lv_aload_n hx hb dX0_drawBoth_107 rfl (lv_at hl 2 rfl) ?_
  refine lv_iconst (v := 2) hx hb dX0_drawBoth_108 (by decide) ?_
  refine kk_iald hx hb hK hq 1 0 rfl rfl 2 rfl (by decide) (by decide) dX0_drawBoth_109 ?_
  refine lv_i2l hx hb dX0_drawBoth_110 rfl ?_
  refine lv_lmul hx hb dX0_drawBoth_111 ?_
  refine lv_ldc2 hx hb hown lk2_ dX0_drawBoth_112 ?_
  refine lv_ldiv hx hb dX0_drawBoth_115 (by decide) ?_
  refine lv_lsub hx hb dX0_drawBoth_116 ?_
  refine lv_topl (fun otherSpeed_14 eotherSpeed_14 => ?_)
  refine kk_put (ws' := [(aC, .inr (0, [.long C_place, .long speed_13, .int C_posture, .int C_since, .int C_height, .int C_ticks, .int C_way, .int C_strength, .int C_drops, .int C_greatestDrop, .long C_otherPlace, .long otherSpeed_14])), (aN, .inl (cN, 8, .inl fN))]) (ci := 0) (v := .long otherSpeed_14) (C := RX0) (T := TX0) (N := 12) hx hb hts iX0 tyX0_ok nmX0 hown hK hq 0 rfl rfl 11 (by decide) lk4_ rfl rfl rfl (Nat.le_of_ble_eq_true rfl) dX0_drawBoth_117 rfl (fun H locs hq => ?_)
  have hf : ((speed_13, otherSpeed_14) : Int64 × Int64) = fX0_drawBoth C_place C_speed C_posture C_otherPlace C_otherSpeed fN := by
    exact ((congrArg (fun (x2_1 : Int64) => ((let r_3 : Int64 := fX0_length C_posture fN
  let r_6 : Int64 := fX0_divided (((fN 1).toInt64) * C_place) r_3
  let speed_8 : Int64 := C_speed + (x2_1 - r_6)
  let r_10 : Int64 := fX0_divided (((fN 1).toInt64) * C_otherPlace) ((fN 7).toInt64)
  let otherSpeed_12 : Int64 := C_otherSpeed - (x2_1 + r_10)
  let speed_13 : Int64 := speed_8 - ((speed_8 * ((fN 2).toInt64)) / 1000)
  let otherSpeed_14 : Int64 := otherSpeed_12 - ((otherSpeed_12 * ((fN 2).toInt64)) / 1000)
  (speed_13, otherSpeed_14)) : Int64 × Int64)) ex2_1.symm).trans ((congrArg (fun (r_3 : Int64) => ((let r_6 : Int64 := fX0_divided (((fN 1).toInt64) * C_place) r_3
  let speed_8 : Int64 := C_speed + (x2_1 - r_6)
  let r_10 : Int64 := fX0_divided (((fN 1).toInt64) * C_otherPlace) ((fN 7).toInt64)
  let otherSpeed_12 : Int64 := C_otherSpeed - (x2_1 + r_10)
  let speed_13 : Int64 := speed_8 - ((speed_8 * ((fN 2).toInt64)) / 1000)
  let otherSpeed_14 : Int64 := otherSpeed_12 - ((otherSpeed_12 * ((fN 2).toInt64)) / 1000)
  (speed_13, otherSpeed_14)) : Int64 × Int64)) er_3.symm).trans ((congrArg (fun (r_6 : Int64) => ((let speed_8 : Int64 := C_speed + (x2_1 - r_6)
  let r_10 : Int64 := fX0_divided (((fN 1).toInt64) * C_otherPlace) ((fN 7).toInt64)
  let otherSpeed_12 : Int64 := C_otherSpeed - (x2_1 + r_10)
  let speed_13 : Int64 := speed_8 - ((speed_8 * ((fN 2).toInt64)) / 1000)
  let otherSpeed_14 : Int64 := otherSpeed_12 - ((otherSpeed_12 * ((fN 2).toInt64)) / 1000)
  (speed_13, otherSpeed_14)) : Int64 × Int64)) er_6.symm).trans ((congrArg (fun (speed_8 : Int64) => ((let r_10 : Int64 := fX0_divided (((fN 1).toInt64) * C_otherPlace) ((fN 7).toInt64)
  let otherSpeed_12 : Int64 := C_otherSpeed - (x2_1 + r_10)
  let speed_13 : Int64 := speed_8 - ((speed_8 * ((fN 2).toInt64)) / 1000)
  let otherSpeed_14 : Int64 := otherSpeed_12 - ((otherSpeed_12 * ((fN 2).toInt64)) / 1000)
  (speed_13, otherSpeed_14)) : Int64 × Int64)) espeed_8.symm).trans ((congrArg (fun (r_10 : Int64) => ((let otherSpeed_12 : Int64 := C_otherSpeed - (x2_1 + r_10)
  let speed_13 : Int64 := speed_8 - ((speed_8 * ((fN 2).toInt64)) / 1000)
  let otherSpeed_14 : Int64 := otherSpeed_12 - ((otherSpeed_12 * ((fN 2).toInt64)) / 1000)
  (speed_13, otherSpeed_14)) : Int64 × Int64)) er_10.symm).trans ((congrArg (fun (otherSpeed_12 : Int64) => ((let speed_13 : Int64 := speed_8 - ((speed_8 * ((fN 2).toInt64)) / 1000)
  let otherSpeed_14 : Int64 := otherSpeed_12 - ((otherSpeed_12 * ((fN 2).toInt64)) / 1000)
  (speed_13, otherSpeed_14)) : Int64 × Int64)) eotherSpeed_12.symm).trans ((congrArg (fun (speed_13 : Int64) => ((let otherSpeed_14 : Int64 := otherSpeed_12 - ((otherSpeed_12 * ((fN 2).toInt64)) / 1000)
  (speed_13, otherSpeed_14)) : Int64 × Int64)) espeed_13.symm).trans ((congrArg (fun (otherSpeed_14 : Int64) => (((speed_13, otherSpeed_14)) : Int64 × Int64)) eotherSpeed_14.symm))))))))).symm
  exact kk_ev hx hb hr hlocks hK hq [0, 1] (speed_13, otherSpeed_14) rfl (by decide) dX0_drawBoth_120 hf
def fX0_moveOther (C_otherPlace : Int64) (C_otherSpeed : Int64) : Int64 × Int64 :=
  let otherPlace_1 : Int64 := C_otherPlace + C_otherSpeed
  let otherPlace_3 : Int64 := if 1000000 < otherPlace_1 then (if 0 < otherPlace_1 then 1000000 else (-1000000)) else if otherPlace_1 < (-1000000) then (if 0 < otherPlace_1 then 1000000 else (-1000000)) else otherPlace_1
  let otherSpeed_4 : Int64 := if 1000000 < otherPlace_1 then 0 else if otherPlace_1 < (-1000000) then 0 else C_otherSpeed
  (otherPlace_3, otherSpeed_4)

set_option maxHeartbeats 4000000 in
set_option maxRecDepth 100000 in
theorem c_X0_moveOther (l : Launch) (G : va_G) (aC : Nat) (C_place : Int64) (C_speed : Int64) (C_posture : Int32) (C_since : Int32) (C_height : Int32) (C_ticks : Int32) (C_way : Int32) (C_strength : Int32) (C_drops : Int32) (C_greatestDrop : Int32) (C_otherPlace : Int64) (C_otherSpeed : Int64) : kCv l yX0_moveOther (Cond.code yX0_moveOther cX0_moveOther 1 none :: wsL_law) ({ frames := 0, cells := 0, slots := 0, locals := 0 }) G [] [.ref aC] [(aC, .inr (0, [.long C_place, .long C_speed, .int C_posture, .int C_since, .int C_height, .int C_ticks, .int C_way, .int C_strength, .int C_drops, .int C_greatestDrop, .long C_otherPlace, .long C_otherSpeed]))] (fun (u : Int64 × Int64) => u = fX0_moveOther C_otherPlace C_otherSpeed) (fun (u : Int64 × Int64) => [(aC, .inr (0, [.long C_place, .long C_speed, .int C_posture, .int C_since, .int C_height, .int C_ticks, .int C_way, .int C_strength, .int C_drops, .int C_greatestDrop, .long u.1, .long u.2]))]) := by
  intro sz
  refine Met.ofW (cc := cX0_moveOther) (maxL := 1) (ret := none) (by decide) rfl ?_
  intro p e s m args below meth c s₁ B hml hv
  obtain ⟨rfl, hv⟩ := hv
  obtain ⟨rfl, hK, hq, hA⟩ := kk_begin hv
  have hx := B.exec
  have hb := B.bytes
  have hr := B.returns
  have hts := atoms_spec (ws := (Cond.code yX0_moveOther cX0_moveOther 1 none :: wsL_law)) B.pre
  have hown : s.vm.findClass RX0 = some m.cls := findClass_of_methodNamed B.named
  have hlocks := B.notSynchronized
  have hsb : ∀ w ∈ wsL_law, w ∈ (Cond.code yX0_moveOther cX0_moveOther 1 none :: wsL_law) := fun _ h => List.mem_cons_of_mem _ h
  generalize va_A [(aC, .inr (0, [.long C_place, .long C_speed, .int C_posture, .int C_since, .int C_height, .int C_ticks, .int C_way, .int C_strength, .int C_drops, .int C_greatestDrop, .long C_otherPlace, .long C_otherSpeed]))] s.heap.size = A at hq hA ⊢
  have iX0 : ∀ w ∈ u_ws RX0 TX0 12, w ∈ (Cond.code yX0_moveOther cX0_moveOther 1 none :: wsL_law) := fun w h => hsb w (bin_X0 w h)
  have lk0_ := hts _ (hsb _ wd_88)
  have lk1_ := hts _ (hsb _ wd_89)
  have lk2_ := hts _ (hsb _ wd_509)
  have lk3_ := hts _ (hsb _ wd_510)
  have hl := lv_entry ([.ref aC]) (n := 1) (Nat.le_of_ble_eq_true rfl)
  rw [lg_entry_eq]
  generalize (lg_sl ([.ref aC]) ++ List.replicate (1 - (lg_sl ([.ref aC])).length) Slot.unset).toArray = ls at hl ⊢
  have hl : lv_has ls 1 [(0, .ref aC)] := hl
  refine lv_aload_n hx hb dX0_moveOther_0 rfl (lv_at hl 0 rfl) ?_
  refine lv_dup hx hb dX0_moveOther_1 rfl ?_
  refine kk_get (ci := 0) (v := .long C_otherPlace) (C := RX0) (T := TX0) (N := 12) hx hb hts iX0 hown hK hq 0 rfl rfl 10 (by decide) lk0_ rfl dX0_moveOther_2 ?_
  refine lv_aload_n hx hb dX0_moveOther_5 rfl (lv_at hl 0 rfl) ?_
  refine kk_get (ci := 0) (v := .long C_otherSpeed) (C := RX0) (T := TX0) (N := 12) hx hb hts iX0 hown hK hq 0 rfl rfl 11 (by decide) lk1_ rfl dX0_moveOther_6 ?_
  refine lv_ladd hx hb dX0_moveOther_9 ?_
  refine lv_topl (fun otherPlace_1 eotherPlace_1 => ?_)
  refine kk_put (ws' := [(aC, .inr (0, [.long C_place, .long C_speed, .int C_posture, .int C_since, .int C_height, .int C_ticks, .int C_way, .int C_strength, .int C_drops, .int C_greatestDrop, .long otherPlace_1, .long C_otherSpeed]))]) (ci := 0) (v := .long otherPlace_1) (C := RX0) (T := TX0) (N := 12) hx hb hts iX0 tyX0_ok nmX0 hown hK hq 0 rfl rfl 10 (by decide) lk0_ rfl rfl rfl (Nat.le_of_ble_eq_true rfl) dX0_moveOther_10 rfl (fun H locs hq => ?_)
  refine lv_aload_n hx hb dX0_moveOther_13 rfl (lv_at hl 0 rfl) ?_
  refine kk_get (ci := 0) (v := .long otherPlace_1) (C := RX0) (T := TX0) (N := 12) hx hb hts iX0 hown hK hq 0 rfl rfl 10 (by decide) lk0_ rfl dX0_moveOther_14 ?_
  refine lv_ldc2 hx hb hown lk2_ dX0_moveOther_17 ?_
  refine kk_join2 (fun (otherPlace_3 : Int64) (otherSpeed_4 : Int64) (H : Heap) (locs : List Loc) (ls : Array Slot) => otherPlace_3 = (if 1000000 < otherPlace_1 then (if 0 < otherPlace_1 then 1000000 else (-1000000)) else if otherPlace_1 < (-1000000) then (if 0 < otherPlace_1 then 1000000 else (-1000000)) else otherPlace_1) ∧ otherSpeed_4 = (if 1000000 < otherPlace_1 then 0 else if otherPlace_1 < (-1000000) then 0 else C_otherSpeed) ∧ lv_has ls 1 [(0, .ref aC)] ∧ kAt G A s [(aC, .inr (0, [.long C_place, .long C_speed, .int C_posture, .int C_since, .int C_height, .int C_ticks, .int C_way, .int C_strength, .int C_drops, .int C_greatestDrop, .long otherPlace_3, .long otherSpeed_4]))] H locs) 62 (fun otherPlace_3 otherSpeed_4 => []) (fun otherPlace_3 otherSpeed_4 H locs ls hv => ?_) (fun J_5 => ?_)
  · skip
    obtain ⟨eotherPlace_3, eotherSpeed_4, hl, hq⟩ := hv
    have hf : ((otherPlace_3, otherSpeed_4) : Int64 × Int64) = fX0_moveOther C_otherPlace C_otherSpeed := by
      exact ((congrArg (fun (otherPlace_1 : Int64) => ((let otherPlace_3 : Int64 := if 1000000 < otherPlace_1 then (if 0 < otherPlace_1 then 1000000 else (-1000000)) else if otherPlace_1 < (-1000000) then (if 0 < otherPlace_1 then 1000000 else (-1000000)) else otherPlace_1
  let otherSpeed_4 : Int64 := if 1000000 < otherPlace_1 then 0 else if otherPlace_1 < (-1000000) then 0 else C_otherSpeed
  (otherPlace_3, otherSpeed_4)) : Int64 × Int64)) eotherPlace_1.symm).trans ((congrArg (fun (otherPlace_3 : Int64) => ((let otherSpeed_4 : Int64 := if 1000000 < otherPlace_1 then 0 else if otherPlace_1 < (-1000000) then 0 else C_otherSpeed
  (otherPlace_3, otherSpeed_4)) : Int64 × Int64)) eotherPlace_3.symm).trans ((congrArg (fun (otherSpeed_4 : Int64) => (((otherPlace_3, otherSpeed_4)) : Int64 × Int64)) eotherSpeed_4.symm)))).symm
    exact kk_ev hx hb hr hlocks hK hq [0] (otherPlace_3, otherSpeed_4) rfl (by decide) dX0_moveOther_62 hf
  · skip
    refine kk_lc_gt (tgt := 35) hx hb dX0_moveOther_20 dX0_moveOther_21 (by decide) (fun c_2 => ?_) (fun c_2 => ?_)
    · skip
      refine lv_aload_n hx hb dX0_moveOther_35 rfl (lv_at hl 0 rfl) ?_
      refine lv_aload_n hx hb dX0_moveOther_36 rfl (lv_at hl 0 rfl) ?_
      refine kk_get (ci := 0) (v := .long otherPlace_1) (C := RX0) (T := TX0) (N := 12) hx hb hts iX0 hown hK hq 0 rfl rfl 10 (by decide) lk0_ rfl dX0_moveOther_37 ?_
      refine lv_lconst (v := 0) hx hb dX0_moveOther_40 (by decide) ?_
      refine kk_join1 (fun (z0_7 : Int64) (H : Heap) (locs : List Loc) (ls : Array Slot) => z0_7 = (if 0 < otherPlace_1 then 1000000 else (-1000000)) ∧ lv_has ls 1 [(0, .ref aC)] ∧ kAt G A s [(aC, .inr (0, [.long C_place, .long C_speed, .int C_posture, .int C_since, .int C_height, .int C_ticks, .int C_way, .int C_strength, .int C_drops, .int C_greatestDrop, .long otherPlace_1, .long C_otherSpeed]))] H locs) 54 (fun z0_7 => [.long z0_7, .ref aC]) (fun z0_7 H locs ls hv => ?_) (fun J_8 => ?_)
      · skip
        obtain ⟨rfl, hl, hq⟩ := hv
        refine kk_put (ws' := [(aC, .inr (0, [.long C_place, .long C_speed, .int C_posture, .int C_since, .int C_height, .int C_ticks, .int C_way, .int C_strength, .int C_drops, .int C_greatestDrop, .long (if 0 < otherPlace_1 then 1000000 else (-1000000)), .long C_otherSpeed]))]) (ci := 0) (v := .long (if 0 < otherPlace_1 then 1000000 else (-1000000))) (C := RX0) (T := TX0) (N := 12) hx hb hts iX0 tyX0_ok nmX0 hown hK hq 0 rfl rfl 10 (by decide) lk0_ rfl rfl rfl (Nat.le_of_ble_eq_true rfl) dX0_moveOther_54 rfl (fun H locs hq => ?_)
        refine lv_aload_n hx hb dX0_moveOther_57 rfl (lv_at hl 0 rfl) ?_
        refine lv_lconst (v := 0) hx hb dX0_moveOther_58 (by decide) ?_
        refine kk_put (ws' := [(aC, .inr (0, [.long C_place, .long C_speed, .int C_posture, .int C_since, .int C_height, .int C_ticks, .int C_way, .int C_strength, .int C_drops, .int C_greatestDrop, .long (if 0 < otherPlace_1 then 1000000 else (-1000000)), .long 0]))]) (ci := 0) (v := .long 0) (C := RX0) (T := TX0) (N := 12) hx hb hts iX0 tyX0_ok nmX0 hown hK hq 0 rfl rfl 11 (by decide) lk1_ rfl rfl rfl (Nat.le_of_ble_eq_true rfl) dX0_moveOther_59 rfl (fun H locs hq => ?_)
        exact J_5 (if 0 < otherPlace_1 then 1000000 else (-1000000)) 0 _ _ _ ⟨(if_pos c_2).symm, (if_pos c_2).symm, lv_sub hl [0] rfl, hq⟩
      · skip
        refine kk_lc_le (tgt := 51) hx hb dX0_moveOther_41 dX0_moveOther_42 (by decide) (fun c_6 => ?_) (fun c_6 => ?_)
        · skip
          refine lv_ldc2 hx hb hown lk3_ dX0_moveOther_51 ?_
          exact J_8 (-1000000) _ _ _ ⟨(if_neg c_6).symm, lv_sub hl [0] rfl, hq⟩
        · skip
          refine lv_ldc2 hx hb hown lk2_ dX0_moveOther_45 ?_
          refine lv_goto (tgt := 54) hx hb dX0_moveOther_48 (by decide) ?_
          exact J_8 1000000 _ _ _ ⟨(if_pos c_6).symm, lv_sub hl [0] rfl, hq⟩
    · skip
      refine lv_aload_n hx hb dX0_moveOther_24 rfl (lv_at hl 0 rfl) ?_
      refine kk_get (ci := 0) (v := .long otherPlace_1) (C := RX0) (T := TX0) (N := 12) hx hb hts iX0 hown hK hq 0 rfl rfl 10 (by decide) lk0_ rfl dX0_moveOther_25 ?_
      refine lv_ldc2 hx hb hown lk3_ dX0_moveOther_28 ?_
      refine kk_lc_ge (tgt := 62) hx hb dX0_moveOther_31 dX0_moveOther_32 (by decide) (fun c_9 => ?_) (fun c_9 => ?_)
      · skip
        exact J_5 otherPlace_1 C_otherSpeed _ _ _ ⟨((if_neg c_2).trans (if_neg c_9)).symm, ((if_neg c_2).trans (if_neg c_9)).symm, lv_sub hl [0] rfl, hq⟩
      · skip
        refine lv_aload_n hx hb dX0_moveOther_35 rfl (lv_at hl 0 rfl) ?_
        refine lv_aload_n hx hb dX0_moveOther_36 rfl (lv_at hl 0 rfl) ?_
        refine kk_get (ci := 0) (v := .long otherPlace_1) (C := RX0) (T := TX0) (N := 12) hx hb hts iX0 hown hK hq 0 rfl rfl 10 (by decide) lk0_ rfl dX0_moveOther_37 ?_
        refine lv_lconst (v := 0) hx hb dX0_moveOther_40 (by decide) ?_
        refine kk_join1 (fun (z0_11 : Int64) (H : Heap) (locs : List Loc) (ls : Array Slot) => z0_11 = (if 0 < otherPlace_1 then 1000000 else (-1000000)) ∧ lv_has ls 1 [(0, .ref aC)] ∧ kAt G A s [(aC, .inr (0, [.long C_place, .long C_speed, .int C_posture, .int C_since, .int C_height, .int C_ticks, .int C_way, .int C_strength, .int C_drops, .int C_greatestDrop, .long otherPlace_1, .long C_otherSpeed]))] H locs) 54 (fun z0_11 => [.long z0_11, .ref aC]) (fun z0_11 H locs ls hv => ?_) (fun J_12 => ?_)
        · skip
          obtain ⟨rfl, hl, hq⟩ := hv
          refine kk_put (ws' := [(aC, .inr (0, [.long C_place, .long C_speed, .int C_posture, .int C_since, .int C_height, .int C_ticks, .int C_way, .int C_strength, .int C_drops, .int C_greatestDrop, .long (if 0 < otherPlace_1 then 1000000 else (-1000000)), .long C_otherSpeed]))]) (ci := 0) (v := .long (if 0 < otherPlace_1 then 1000000 else (-1000000))) (C := RX0) (T := TX0) (N := 12) hx hb hts iX0 tyX0_ok nmX0 hown hK hq 0 rfl rfl 10 (by decide) lk0_ rfl rfl rfl (Nat.le_of_ble_eq_true rfl) dX0_moveOther_54 rfl (fun H locs hq => ?_)
          refine lv_aload_n hx hb dX0_moveOther_57 rfl (lv_at hl 0 rfl) ?_
          refine lv_lconst (v := 0) hx hb dX0_moveOther_58 (by decide) ?_
          refine kk_put (ws' := [(aC, .inr (0, [.long C_place, .long C_speed, .int C_posture, .int C_since, .int C_height, .int C_ticks, .int C_way, .int C_strength, .int C_drops, .int C_greatestDrop, .long (if 0 < otherPlace_1 then 1000000 else (-1000000)), .long 0]))]) (ci := 0) (v := .long 0) (C := RX0) (T := TX0) (N := 12) hx hb hts iX0 tyX0_ok nmX0 hown hK hq 0 rfl rfl 11 (by decide) lk1_ rfl rfl rfl (Nat.le_of_ble_eq_true rfl) dX0_moveOther_59 rfl (fun H locs hq => ?_)
          exact J_5 (if 0 < otherPlace_1 then 1000000 else (-1000000)) 0 _ _ _ ⟨((if_neg c_2).trans (if_pos c_9)).symm, ((if_neg c_2).trans (if_pos c_9)).symm, lv_sub hl [0] rfl, hq⟩
        · skip
          refine kk_lc_le (tgt := 51) hx hb dX0_moveOther_41 dX0_moveOther_42 (by decide) (fun c_10 => ?_) (fun c_10 => ?_)
          · skip
            refine lv_ldc2 hx hb hown lk3_ dX0_moveOther_51 ?_
            exact J_12 (-1000000) _ _ _ ⟨(if_neg c_10).symm, lv_sub hl [0] rfl, hq⟩
          · skip
            refine lv_ldc2 hx hb hown lk2_ dX0_moveOther_45 ?_
            refine lv_goto (tgt := 54) hx hb dX0_moveOther_48 (by decide) ?_
            exact J_12 1000000 _ _ _ ⟨(if_pos c_10).symm, lv_sub hl [0] rfl, hq⟩
def fX0_wentSlack (C_place : Int64) (C_speed : Int64) (C_way : Int32) (C_drops : Int32) (C_greatestDrop : Int32) : Int32 × Int64 × Int64 × Int32 × Int32 × Int32 :=
  let x1_1 : Int64 := (if 0 < C_place then C_place else -C_place) - 1000000
  if 0 < x1_1 then (
    let drops_3 : Int32 := C_drops + 1
    let greatestDrop_4 : Int32 := (if x1_1 < C_greatestDrop.toInt64 then C_greatestDrop.toInt64 else x1_1).toInt32
    let z0_6 : Int64 := if 0 < C_place then 1000000 else (-1000000)
    (1, z0_6, 0, 0, drops_3, greatestDrop_4))
  else (
    (0, C_place, C_speed, C_way, C_drops, C_greatestDrop))

set_option maxHeartbeats 4000000 in
set_option maxRecDepth 100000 in
theorem c_X0_wentSlack (l : Launch) (G : va_G) (aC : Nat) (C_place : Int64) (C_speed : Int64) (C_posture : Int32) (C_since : Int32) (C_height : Int32) (C_ticks : Int32) (C_way : Int32) (C_strength : Int32) (C_drops : Int32) (C_greatestDrop : Int32) (C_otherPlace : Int64) (C_otherSpeed : Int64) : kCi l yX0_wentSlack (Cond.code yX0_wentSlack cX0_wentSlack 3 (some .boolean) :: wsL_law) ({ frames := 1, cells := 0, slots := 0, locals := 30 }) G [] [.ref aC] [(aC, .inr (0, [.long C_place, .long C_speed, .int C_posture, .int C_since, .int C_height, .int C_ticks, .int C_way, .int C_strength, .int C_drops, .int C_greatestDrop, .long C_otherPlace, .long C_otherSpeed]))] (fun (r : Int32) (u : Int64 × Int64 × Int32 × Int32 × Int32) => r = (fX0_wentSlack C_place C_speed C_way C_drops C_greatestDrop).1 ∧ u = (fX0_wentSlack C_place C_speed C_way C_drops C_greatestDrop).2 ∧ (r = 0 ∨ r = 1)) (fun (u : Int64 × Int64 × Int32 × Int32 × Int32) => [(aC, .inr (0, [.long u.1, .long u.2.1, .int C_posture, .int C_since, .int C_height, .int C_ticks, .int u.2.2.1, .int C_strength, .int u.2.2.2.1, .int u.2.2.2.2, .long C_otherPlace, .long C_otherSpeed]))]) := by
  intro sz
  refine Met.ofW (cc := cX0_wentSlack) (maxL := 3) (ret := (some .boolean)) (by decide) rfl ?_
  intro p e s m args below meth c s₁ B hml hv
  obtain ⟨rfl, hv⟩ := hv
  obtain ⟨rfl, hK, hq, hA⟩ := kk_begin hv
  have hx := B.exec
  have hb := B.bytes
  have hr := B.returns
  have hts := atoms_spec (ws := (Cond.code yX0_wentSlack cX0_wentSlack 3 (some .boolean) :: wsL_law)) B.pre
  have hown : s.vm.findClass RX0 = some m.cls := findClass_of_methodNamed B.named
  have hlocks := B.notSynchronized
  have hsb : ∀ w ∈ wsL_law, w ∈ (Cond.code yX0_wentSlack cX0_wentSlack 3 (some .boolean) :: wsL_law) := fun _ h => List.mem_cons_of_mem _ h
  generalize va_A [(aC, .inr (0, [.long C_place, .long C_speed, .int C_posture, .int C_since, .int C_height, .int C_ticks, .int C_way, .int C_strength, .int C_drops, .int C_greatestDrop, .long C_otherPlace, .long C_otherSpeed]))] s.heap.size = A at hq hA ⊢
  have iX0 : ∀ w ∈ u_ws RX0 TX0 12, w ∈ (Cond.code yX0_wentSlack cX0_wentSlack 3 (some .boolean) :: wsL_law) := fun w h => hsb w (bin_X0 w h)
  have lk0_ := hts _ (hsb _ wd_78)
  have lk1_ := hts _ (hsb _ wd_383)
  have lk2_ := hts _ (hsb _ wd_384)
  have lk3_ := hts _ (hsb _ wd_385)
  have lk4_ := hts _ (hsb _ wd_386)
  have lk5_ := hts _ (hsb _ wd_509)
  have lk6_ := hts _ (hsb _ wd_86)
  have lk7_ := hts _ (hsb _ wd_87)
  have lk8_ := hts _ (hsb _ wd_515)
  have lk9_ := hts _ (hsb _ wd_426)
  have lk10_ := hts _ (hsb _ wd_427)
  have lk11_ := hts _ (hsb _ wd_510)
  have lk12_ := hts _ (hsb _ wd_79)
  have lk13_ := hts _ (hsb _ wd_84)
  have hl := lv_entry ([.ref aC]) (n := 3) (Nat.le_of_ble_eq_true rfl)
  rw [lg_entry_eq]
  generalize (lg_sl ([.ref aC]) ++ List.replicate (3 - (lg_sl ([.ref aC])).length) Slot.unset).toArray = ls at hl ⊢
  have hl : lv_has ls 3 [(0, .ref aC)] := hl
  refine lv_aload_n hx hb dX0_wentSlack_0 rfl (lv_at hl 0 rfl) ?_
  refine kk_get (ci := 0) (v := .long C_place) (C := RX0) (T := TX0) (N := 12) hx hb hts iX0 hown hK hq 0 rfl rfl 0 (by decide) lk0_ rfl dX0_wentSlack_1 ?_
  refine va_mabs_long hx hb (by rw [hml]; exact hl.1.symm) hown lk1_ lk2_ lk3_ lk4_ (Nat.le_of_ble_eq_true rfl) (Nat.le_of_ble_eq_true rfl) (Nat.zero_le _) (Nat.zero_le _) dX0_wentSlack_4 ?_
  refine lv_ldc2 hx hb hown lk5_ dX0_wentSlack_7 ?_
  refine lv_lsub hx hb dX0_wentSlack_10 ?_
  refine lv_topl (fun x1_1 ex1_1 => ?_)
  refine lv_lstore_n (lv' := [(1, .long x1_1), (0, .ref aC)]) hx hb dX0_wentSlack_11 rfl hl (by decide) rfl (fun ls hl => ?_)
  refine lv_lload_n hx hb dX0_wentSlack_12 rfl (lv_at hl 0 rfl) ?_
  refine lv_lconst (v := 0) hx hb dX0_wentSlack_13 (by decide) ?_
  refine kk_lc_gt (tgt := 20) hx hb dX0_wentSlack_14 dX0_wentSlack_15 (by decide) (fun c_2 => ?_) (fun c_2 => ?_)
  · skip
    refine lv_aload_n hx hb dX0_wentSlack_20 rfl (lv_at hl 1 rfl) ?_
    refine lv_dup hx hb dX0_wentSlack_21 rfl ?_
    refine kk_get (ci := 0) (v := .int C_drops) (C := RX0) (T := TX0) (N := 12) hx hb hts iX0 hown hK hq 0 rfl rfl 8 (by decide) lk6_ rfl dX0_wentSlack_22 ?_
    refine lv_iconst (v := 1) hx hb dX0_wentSlack_25 (by decide) ?_
    refine lv_iadd hx hb dX0_wentSlack_26 ?_
    refine lv_topi (fun drops_3 edrops_3 => ?_)
    refine kk_put (ws' := [(aC, .inr (0, [.long C_place, .long C_speed, .int C_posture, .int C_since, .int C_height, .int C_ticks, .int C_way, .int C_strength, .int drops_3, .int C_greatestDrop, .long C_otherPlace, .long C_otherSpeed]))]) (ci := 0) (v := .int drops_3) (C := RX0) (T := TX0) (N := 12) hx hb hts iX0 tyX0_ok nmX0 hown hK hq 0 rfl rfl 8 (by decide) lk6_ rfl rfl rfl (Nat.le_of_ble_eq_true rfl) dX0_wentSlack_27 rfl (fun H locs hq => ?_)
    refine lv_aload_n hx hb dX0_wentSlack_30 rfl (lv_at hl 1 rfl) ?_
    refine lv_aload_n hx hb dX0_wentSlack_31 rfl (lv_at hl 1 rfl) ?_
    refine kk_get (ci := 0) (v := .int C_greatestDrop) (C := RX0) (T := TX0) (N := 12) hx hb hts iX0 hown hK hq 0 rfl rfl 9 (by decide) lk7_ rfl dX0_wentSlack_32 ?_
    refine lv_i2l hx hb dX0_wentSlack_35 rfl ?_
    refine lv_lload_n hx hb dX0_wentSlack_36 rfl (lv_at hl 0 rfl) ?_
    refine va_mmax_long hx hb (by rw [hml]; exact hl.1.symm) hown lk8_ lk9_ lk3_ lk10_ (Nat.le_of_ble_eq_true rfl) (Nat.le_of_ble_eq_true rfl) (Nat.zero_le _) (Nat.zero_le _) dX0_wentSlack_37 ?_
    refine lv_l2i hx hb dX0_wentSlack_40 rfl ?_
    refine lv_topi (fun greatestDrop_4 egreatestDrop_4 => ?_)
    refine kk_put (ws' := [(aC, .inr (0, [.long C_place, .long C_speed, .int C_posture, .int C_since, .int C_height, .int C_ticks, .int C_way, .int C_strength, .int drops_3, .int greatestDrop_4, .long C_otherPlace, .long C_otherSpeed]))]) (ci := 0) (v := .int greatestDrop_4) (C := RX0) (T := TX0) (N := 12) hx hb hts iX0 tyX0_ok nmX0 hown hK hq 0 rfl rfl 9 (by decide) lk7_ rfl rfl rfl (Nat.le_of_ble_eq_true rfl) dX0_wentSlack_41 rfl (fun H locs hq => ?_)
    refine lv_aload_n hx hb dX0_wentSlack_44 rfl (lv_at hl 1 rfl) ?_
    refine lv_aload_n hx hb dX0_wentSlack_45 rfl (lv_at hl 1 rfl) ?_
    refine kk_get (ci := 0) (v := .long C_place) (C := RX0) (T := TX0) (N := 12) hx hb hts iX0 hown hK hq 0 rfl rfl 0 (by decide) lk0_ rfl dX0_wentSlack_46 ?_
    refine lv_lconst (v := 0) hx hb dX0_wentSlack_49 (by decide) ?_
    refine kk_join1 (fun (z0_6 : Int64) (H : Heap) (locs : List Loc) (ls : Array Slot) => z0_6 = (if 0 < C_place then 1000000 else (-1000000)) ∧ lv_has ls 3 [(1, .long x1_1), (0, .ref aC)] ∧ kAt G A s [(aC, .inr (0, [.long C_place, .long C_speed, .int C_posture, .int C_since, .int C_height, .int C_ticks, .int C_way, .int C_strength, .int drops_3, .int greatestDrop_4, .long C_otherPlace, .long C_otherSpeed]))] H locs) 63 (fun z0_6 => [.long z0_6, .ref aC]) (fun z0_6 H locs ls hv => ?_) (fun J_7 => ?_)
    · skip
      obtain ⟨ez0_6, hl, hq⟩ := hv
      refine kk_put (ws' := [(aC, .inr (0, [.long z0_6, .long C_speed, .int C_posture, .int C_since, .int C_height, .int C_ticks, .int C_way, .int C_strength, .int drops_3, .int greatestDrop_4, .long C_otherPlace, .long C_otherSpeed]))]) (ci := 0) (v := .long z0_6) (C := RX0) (T := TX0) (N := 12) hx hb hts iX0 tyX0_ok nmX0 hown hK hq 0 rfl rfl 0 (by decide) lk0_ rfl rfl rfl (Nat.le_of_ble_eq_true rfl) dX0_wentSlack_63 rfl (fun H locs hq => ?_)
      refine lv_aload_n hx hb dX0_wentSlack_66 rfl (lv_at hl 1 rfl) ?_
      refine lv_lconst (v := 0) hx hb dX0_wentSlack_67 (by decide) ?_
      refine kk_put (ws' := [(aC, .inr (0, [.long z0_6, .long 0, .int C_posture, .int C_since, .int C_height, .int C_ticks, .int C_way, .int C_strength, .int drops_3, .int greatestDrop_4, .long C_otherPlace, .long C_otherSpeed]))]) (ci := 0) (v := .long 0) (C := RX0) (T := TX0) (N := 12) hx hb hts iX0 tyX0_ok nmX0 hown hK hq 0 rfl rfl 1 (by decide) lk12_ rfl rfl rfl (Nat.le_of_ble_eq_true rfl) dX0_wentSlack_68 rfl (fun H locs hq => ?_)
      refine lv_aload_n hx hb dX0_wentSlack_71 rfl (lv_at hl 1 rfl) ?_
      refine lv_iconst (v := 0) hx hb dX0_wentSlack_72 (by decide) ?_
      refine kk_put (ws' := [(aC, .inr (0, [.long z0_6, .long 0, .int C_posture, .int C_since, .int C_height, .int C_ticks, .int 0, .int C_strength, .int drops_3, .int greatestDrop_4, .long C_otherPlace, .long C_otherSpeed]))]) (ci := 0) (v := .int 0) (C := RX0) (T := TX0) (N := 12) hx hb hts iX0 tyX0_ok nmX0 hown hK hq 0 rfl rfl 6 (by decide) lk13_ rfl rfl rfl (Nat.le_of_ble_eq_true rfl) dX0_wentSlack_73 rfl (fun H locs hq => ?_)
      refine lv_iconst (v := 1) hx hb dX0_wentSlack_76 (by decide) ?_
      have hf : ((1, z0_6, 0, 0, drops_3, greatestDrop_4) : Int32 × Int64 × Int64 × Int32 × Int32 × Int32) = fX0_wentSlack C_place C_speed C_way C_drops C_greatestDrop := by
        exact ((congrArg (fun (x1_1 : Int64) => ((if 0 < x1_1 then (
    let drops_3 : Int32 := C_drops + 1
    let greatestDrop_4 : Int32 := (if x1_1 < C_greatestDrop.toInt64 then C_greatestDrop.toInt64 else x1_1).toInt32
    let z0_6 : Int64 := if 0 < C_place then 1000000 else (-1000000)
    (1, z0_6, 0, 0, drops_3, greatestDrop_4))
  else (
    (0, C_place, C_speed, C_way, C_drops, C_greatestDrop))) : Int32 × Int64 × Int64 × Int32 × Int32 × Int32)) ex1_1.symm).trans ((if_pos c_2).trans ((congrArg (fun (drops_3 : Int32) => ((let greatestDrop_4 : Int32 := (if x1_1 < C_greatestDrop.toInt64 then C_greatestDrop.toInt64 else x1_1).toInt32
  let z0_6 : Int64 := if 0 < C_place then 1000000 else (-1000000)
  (1, z0_6, 0, 0, drops_3, greatestDrop_4)) : Int32 × Int64 × Int64 × Int32 × Int32 × Int32)) edrops_3.symm).trans ((congrArg (fun (greatestDrop_4 : Int32) => ((let z0_6 : Int64 := if 0 < C_place then 1000000 else (-1000000)
  (1, z0_6, 0, 0, drops_3, greatestDrop_4)) : Int32 × Int64 × Int64 × Int32 × Int32 × Int32)) egreatestDrop_4.symm).trans ((congrArg (fun (z0_6 : Int64) => (((1, z0_6, 0, 0, drops_3, greatestDrop_4)) : Int32 × Int64 × Int64 × Int32 × Int32 × Int32)) ez0_6.symm)))))).symm
      have hz : (1 : Int32) = 0 ∨ (1 : Int32) = 1 := Or.inr rfl
      exact kk_ez hx hb hr hlocks hz hK hq [0] (z0_6, 0, 0, drops_3, greatestDrop_4) rfl (by decide) dX0_wentSlack_77 ⟨congrArg Prod.fst hf, congrArg Prod.snd hf, hz⟩
    · skip
      refine kk_lc_le (tgt := 60) hx hb dX0_wentSlack_50 dX0_wentSlack_51 (by decide) (fun c_5 => ?_) (fun c_5 => ?_)
      · skip
        refine lv_ldc2 hx hb hown lk11_ dX0_wentSlack_60 ?_
        exact J_7 (-1000000) _ _ _ ⟨(if_neg c_5).symm, lv_sub hl [0, 1] rfl, hq⟩
      · skip
        refine lv_ldc2 hx hb hown lk5_ dX0_wentSlack_54 ?_
        refine lv_goto (tgt := 63) hx hb dX0_wentSlack_57 (by decide) ?_
        exact J_7 1000000 _ _ _ ⟨(if_pos c_5).symm, lv_sub hl [0, 1] rfl, hq⟩
  · skip
    refine lv_iconst (v := 0) hx hb dX0_wentSlack_18 (by decide) ?_
    have hf : ((0, C_place, C_speed, C_way, C_drops, C_greatestDrop) : Int32 × Int64 × Int64 × Int32 × Int32 × Int32) = fX0_wentSlack C_place C_speed C_way C_drops C_greatestDrop := by
      exact ((congrArg (fun (x1_1 : Int64) => ((if 0 < x1_1 then (
    let drops_3 : Int32 := C_drops + 1
    let greatestDrop_4 : Int32 := (if x1_1 < C_greatestDrop.toInt64 then C_greatestDrop.toInt64 else x1_1).toInt32
    let z0_6 : Int64 := if 0 < C_place then 1000000 else (-1000000)
    (1, z0_6, 0, 0, drops_3, greatestDrop_4))
  else (
    (0, C_place, C_speed, C_way, C_drops, C_greatestDrop))) : Int32 × Int64 × Int64 × Int32 × Int32 × Int32)) ex1_1.symm).trans ((if_neg c_2))).symm
    have hz : (0 : Int32) = 0 ∨ (0 : Int32) = 1 := Or.inl rfl
    exact kk_ez hx hb hr hlocks hz hK hq [0] (C_place, C_speed, C_way, C_drops, C_greatestDrop) rfl (by decide) dX0_wentSlack_19 ⟨congrArg Prod.fst hf, congrArg Prod.snd hf, hz⟩
def fX0_turnedBack (C_speed : Int64) (C_way : Int32) : Int32 × Int32 :=
  if C_speed = 0 then (
    (0, C_way))
  else (
    let z0_3 : Int32 := if 0 < C_speed then 1 else (-1)
    let z0_6 : Int32 := if C_way = -z0_3 then 1 else 0
    (z0_6, z0_3))

set_option maxHeartbeats 4000000 in
set_option maxRecDepth 100000 in
theorem c_X0_turnedBack (l : Launch) (G : va_G) (aC : Nat) (C_place : Int64) (C_speed : Int64) (C_posture : Int32) (C_since : Int32) (C_height : Int32) (C_ticks : Int32) (C_way : Int32) (C_strength : Int32) (C_drops : Int32) (C_greatestDrop : Int32) (C_otherPlace : Int64) (C_otherSpeed : Int64) : kCi l yX0_turnedBack (Cond.code yX0_turnedBack cX0_turnedBack 2 (some .boolean) :: wsL_law) ({ frames := 0, cells := 0, slots := 0, locals := 0 }) G [] [.ref aC] [(aC, .inr (0, [.long C_place, .long C_speed, .int C_posture, .int C_since, .int C_height, .int C_ticks, .int C_way, .int C_strength, .int C_drops, .int C_greatestDrop, .long C_otherPlace, .long C_otherSpeed]))] (fun (r : Int32) (u : Int32) => r = (fX0_turnedBack C_speed C_way).1 ∧ u = (fX0_turnedBack C_speed C_way).2 ∧ (r = 0 ∨ r = 1)) (fun (u : Int32) => [(aC, .inr (0, [.long C_place, .long C_speed, .int C_posture, .int C_since, .int C_height, .int C_ticks, .int u, .int C_strength, .int C_drops, .int C_greatestDrop, .long C_otherPlace, .long C_otherSpeed]))]) := by
  intro sz
  refine Met.ofW (cc := cX0_turnedBack) (maxL := 2) (ret := (some .boolean)) (by decide) rfl ?_
  intro p e s m args below meth c s₁ B hml hv
  obtain ⟨rfl, hv⟩ := hv
  obtain ⟨rfl, hK, hq, hA⟩ := kk_begin hv
  have hx := B.exec
  have hb := B.bytes
  have hr := B.returns
  have hts := atoms_spec (ws := (Cond.code yX0_turnedBack cX0_turnedBack 2 (some .boolean) :: wsL_law)) B.pre
  have hown : s.vm.findClass RX0 = some m.cls := findClass_of_methodNamed B.named
  have hlocks := B.notSynchronized
  have hsb : ∀ w ∈ wsL_law, w ∈ (Cond.code yX0_turnedBack cX0_turnedBack 2 (some .boolean) :: wsL_law) := fun _ h => List.mem_cons_of_mem _ h
  generalize va_A [(aC, .inr (0, [.long C_place, .long C_speed, .int C_posture, .int C_since, .int C_height, .int C_ticks, .int C_way, .int C_strength, .int C_drops, .int C_greatestDrop, .long C_otherPlace, .long C_otherSpeed]))] s.heap.size = A at hq hA ⊢
  have iX0 : ∀ w ∈ u_ws RX0 TX0 12, w ∈ (Cond.code yX0_turnedBack cX0_turnedBack 2 (some .boolean) :: wsL_law) := fun w h => hsb w (bin_X0 w h)
  have lk0_ := hts _ (hsb _ wd_79)
  have lk1_ := hts _ (hsb _ wd_84)
  have hl := lv_entry ([.ref aC]) (n := 2) (Nat.le_of_ble_eq_true rfl)
  rw [lg_entry_eq]
  generalize (lg_sl ([.ref aC]) ++ List.replicate (2 - (lg_sl ([.ref aC])).length) Slot.unset).toArray = ls at hl ⊢
  have hl : lv_has ls 2 [(0, .ref aC)] := hl
  refine lv_aload_n hx hb dX0_turnedBack_0 rfl (lv_at hl 0 rfl) ?_
  refine kk_get (ci := 0) (v := .long C_speed) (C := RX0) (T := TX0) (N := 12) hx hb hts iX0 hown hK hq 0 rfl rfl 1 (by decide) lk0_ rfl dX0_turnedBack_1 ?_
  refine lv_lconst (v := 0) hx hb dX0_turnedBack_4 (by decide) ?_
  refine kk_lc_ne (tgt := 11) hx hb dX0_turnedBack_5 dX0_turnedBack_6 (by decide) (fun c_1 => ?_) (fun c_1 => ?_)
  · skip
    refine lv_aload_n hx hb dX0_turnedBack_11 rfl (lv_at hl 0 rfl) ?_
    refine kk_get (ci := 0) (v := .int C_way) (C := RX0) (T := TX0) (N := 12) hx hb hts iX0 hown hK hq 0 rfl rfl 6 (by decide) lk1_ rfl dX0_turnedBack_12 ?_
    refine lv_istore_n (lv' := [(1, .int C_way), (0, .ref aC)]) hx hb dX0_turnedBack_15 rfl hl (by decide) rfl (fun ls hl => ?_)
    refine lv_aload_n hx hb dX0_turnedBack_16 rfl (lv_at hl 1 rfl) ?_
    refine lv_aload_n hx hb dX0_turnedBack_17 rfl (lv_at hl 1 rfl) ?_
    refine kk_get (ci := 0) (v := .long C_speed) (C := RX0) (T := TX0) (N := 12) hx hb hts iX0 hown hK hq 0 rfl rfl 1 (by decide) lk0_ rfl dX0_turnedBack_18 ?_
    refine lv_lconst (v := 0) hx hb dX0_turnedBack_21 (by decide) ?_
    refine kk_join1 (fun (z0_3 : Int32) (H : Heap) (locs : List Loc) (ls : Array Slot) => z0_3 = (if 0 < C_speed then 1 else (-1)) ∧ lv_has ls 2 [(1, .int C_way), (0, .ref aC)] ∧ kAt G A s [(aC, .inr (0, [.long C_place, .long C_speed, .int C_posture, .int C_since, .int C_height, .int C_ticks, .int C_way, .int C_strength, .int C_drops, .int C_greatestDrop, .long C_otherPlace, .long C_otherSpeed]))] H locs) 31 (fun z0_3 => [.int z0_3, .ref aC]) (fun z0_3 H locs ls hv => ?_) (fun J_4 => ?_)
    · skip
      obtain ⟨ez0_3, hl, hq⟩ := hv
      refine kk_put (ws' := [(aC, .inr (0, [.long C_place, .long C_speed, .int C_posture, .int C_since, .int C_height, .int C_ticks, .int z0_3, .int C_strength, .int C_drops, .int C_greatestDrop, .long C_otherPlace, .long C_otherSpeed]))]) (ci := 0) (v := .int z0_3) (C := RX0) (T := TX0) (N := 12) hx hb hts iX0 tyX0_ok nmX0 hown hK hq 0 rfl rfl 6 (by decide) lk1_ rfl rfl rfl (Nat.le_of_ble_eq_true rfl) dX0_turnedBack_31 rfl (fun H locs hq => ?_)
      refine lv_iload_n hx hb dX0_turnedBack_34 rfl (lv_at hl 0 rfl) ?_
      refine lv_aload_n hx hb dX0_turnedBack_35 rfl (lv_at hl 1 rfl) ?_
      refine kk_get (ci := 0) (v := .int z0_3) (C := RX0) (T := TX0) (N := 12) hx hb hts iX0 hown hK hq 0 rfl rfl 6 (by decide) lk1_ rfl dX0_turnedBack_36 ?_
      refine lv_ineg hx hb dX0_turnedBack_39 ?_
      refine kk_join1 (fun (z0_6 : Int32) (H : Heap) (locs : List Loc) (ls : Array Slot) => z0_6 = (if C_way = -z0_3 then 1 else 0) ∧ lv_has ls 2 [(1, .int C_way), (0, .ref aC)] ∧ kAt G A s [(aC, .inr (0, [.long C_place, .long C_speed, .int C_posture, .int C_since, .int C_height, .int C_ticks, .int z0_3, .int C_strength, .int C_drops, .int C_greatestDrop, .long C_otherPlace, .long C_otherSpeed]))] H locs) 48 (fun z0_6 => [.int z0_6]) (fun z0_6 H locs ls hv => ?_) (fun J_7 => ?_)
      · skip
        obtain ⟨ez0_6, hl, hq⟩ := hv
        have hf : ((z0_6, z0_3) : Int32 × Int32) = fX0_turnedBack C_speed C_way := by
          exact ((if_neg c_1).trans ((congrArg (fun (z0_3 : Int32) => ((let z0_6 : Int32 := if C_way = -z0_3 then 1 else 0
  (z0_6, z0_3)) : Int32 × Int32)) ez0_3.symm).trans ((congrArg (fun (z0_6 : Int32) => (((z0_6, z0_3)) : Int32 × Int32)) ez0_6.symm)))).symm
        have hz : (z0_6 : Int32) = 0 ∨ (z0_6 : Int32) = 1 := (by rw [ez0_6]; repeat (first | exact Or.inl rfl | exact Or.inr rfl | split))
        exact kk_ez hx hb hr hlocks hz hK hq [0] z0_3 rfl (by decide) dX0_turnedBack_48 ⟨congrArg Prod.fst hf, congrArg Prod.snd hf, hz⟩
      · skip
        refine lv_icmp_ne (tgt := 47) hx hb dX0_turnedBack_40 (by decide) (fun c_5 => ?_) (fun c_5 => ?_)
        · skip
          refine lv_iconst (v := 0) hx hb dX0_turnedBack_47 (by decide) ?_
          exact J_7 0 _ _ _ ⟨(if_neg c_5).symm, lv_sub hl [0, 1] rfl, hq⟩
        · skip
          refine lv_iconst (v := 1) hx hb dX0_turnedBack_43 (by decide) ?_
          refine lv_goto (tgt := 48) hx hb dX0_turnedBack_44 (by decide) ?_
          exact J_7 1 _ _ _ ⟨(if_pos c_5).symm, lv_sub hl [0, 1] rfl, hq⟩
    · skip
      refine kk_lc_le (tgt := 30) hx hb dX0_turnedBack_22 dX0_turnedBack_23 (by decide) (fun c_2 => ?_) (fun c_2 => ?_)
      · skip
        refine lv_iconst (v := -1) hx hb dX0_turnedBack_30 (by decide) ?_
        exact J_4 (-1) _ _ _ ⟨(if_neg c_2).symm, lv_sub hl [0, 1] rfl, hq⟩
      · skip
        refine lv_iconst (v := 1) hx hb dX0_turnedBack_26 (by decide) ?_
        refine lv_goto (tgt := 31) hx hb dX0_turnedBack_27 (by decide) ?_
        exact J_4 1 _ _ _ ⟨(if_pos c_2).symm, lv_sub hl [0, 1] rfl, hq⟩
  · skip
    refine lv_iconst (v := 0) hx hb dX0_turnedBack_9 (by decide) ?_
    have hf : ((0, C_way) : Int32 × Int32) = fX0_turnedBack C_speed C_way := by
      exact ((if_pos c_1)).symm
    have hz : (0 : Int32) = 0 ∨ (0 : Int32) = 1 := Or.inl rfl
    exact kk_ez hx hb hr hlocks hz hK hq [0] C_way rfl (by decide) dX0_turnedBack_10 ⟨congrArg Prod.fst hf, congrArg Prod.snd hf, hz⟩
def fX0_passedMiddle (p1 : Int64) (C_place : Int64) : Int32 :=
  let z0_2 : Int32 := if C_place = 0 then 1 else if 0 < C_place then if p1 < 0 then 1 else if C_place < 0 then if 0 < p1 then 1 else 0 else 0 else if C_place < 0 then if 0 < p1 then 1 else 0 else 0
  z0_2

set_option maxHeartbeats 4000000 in
set_option maxRecDepth 100000 in
theorem c_X0_passedMiddle (l : Launch) (G : va_G) (aC : Nat) (p1 : Int64) (C_place : Int64) (C_speed : Int64) (C_posture : Int32) (C_since : Int32) (C_height : Int32) (C_ticks : Int32) (C_way : Int32) (C_strength : Int32) (C_drops : Int32) (C_greatestDrop : Int32) (C_otherPlace : Int64) (C_otherSpeed : Int64) : kCi l yX0_passedMiddle (Cond.code yX0_passedMiddle cX0_passedMiddle 3 (some .boolean) :: wsL_law) ({ frames := 0, cells := 0, slots := 0, locals := 0 }) G [] [.ref aC, .long p1] [(aC, .inr (0, [.long C_place, .long C_speed, .int C_posture, .int C_since, .int C_height, .int C_ticks, .int C_way, .int C_strength, .int C_drops, .int C_greatestDrop, .long C_otherPlace, .long C_otherSpeed]))] (fun (r : Int32) (_ : Unit) => r = fX0_passedMiddle p1 C_place ∧ (r = 0 ∨ r = 1)) (fun (_ : Unit) => [(aC, .inr (0, [.long C_place, .long C_speed, .int C_posture, .int C_since, .int C_height, .int C_ticks, .int C_way, .int C_strength, .int C_drops, .int C_greatestDrop, .long C_otherPlace, .long C_otherSpeed]))]) := by
  intro sz
  refine Met.ofW (cc := cX0_passedMiddle) (maxL := 3) (ret := (some .boolean)) (by decide) rfl ?_
  intro p e s m args below meth c s₁ B hml hv
  obtain ⟨rfl, hv⟩ := hv
  obtain ⟨rfl, hK, hq, hA⟩ := kk_begin hv
  have hx := B.exec
  have hb := B.bytes
  have hr := B.returns
  have hts := atoms_spec (ws := (Cond.code yX0_passedMiddle cX0_passedMiddle 3 (some .boolean) :: wsL_law)) B.pre
  have hown : s.vm.findClass RX0 = some m.cls := findClass_of_methodNamed B.named
  have hlocks := B.notSynchronized
  have hsb : ∀ w ∈ wsL_law, w ∈ (Cond.code yX0_passedMiddle cX0_passedMiddle 3 (some .boolean) :: wsL_law) := fun _ h => List.mem_cons_of_mem _ h
  generalize va_A [(aC, .inr (0, [.long C_place, .long C_speed, .int C_posture, .int C_since, .int C_height, .int C_ticks, .int C_way, .int C_strength, .int C_drops, .int C_greatestDrop, .long C_otherPlace, .long C_otherSpeed]))] s.heap.size = A at hq hA ⊢
  have iX0 : ∀ w ∈ u_ws RX0 TX0 12, w ∈ (Cond.code yX0_passedMiddle cX0_passedMiddle 3 (some .boolean) :: wsL_law) := fun w h => hsb w (bin_X0 w h)
  have lk0_ := hts _ (hsb _ wd_78)
  have hl := lv_entry ([.ref aC, .long p1]) (n := 3) (Nat.le_of_ble_eq_true rfl)
  rw [lg_entry_eq]
  generalize (lg_sl ([.ref aC, .long p1]) ++ List.replicate (3 - (lg_sl ([.ref aC, .long p1])).length) Slot.unset).toArray = ls at hl ⊢
  have hl : lv_has ls 3 [(0, .ref aC), (1, .long p1)] := hl
  refine lv_aload_n hx hb dX0_passedMiddle_0 rfl (lv_at hl 0 rfl) ?_
  refine kk_get (ci := 0) (v := .long C_place) (C := RX0) (T := TX0) (N := 12) hx hb hts iX0 hown hK hq 0 rfl rfl 0 (by decide) lk0_ rfl dX0_passedMiddle_1 ?_
  refine lv_lconst (v := 0) hx hb dX0_passedMiddle_4 (by decide) ?_
  refine kk_join1 (fun (z0_2 : Int32) (H : Heap) (locs : List Loc) (ls : Array Slot) => z0_2 = (if C_place = 0 then 1 else if 0 < C_place then if p1 < 0 then 1 else if C_place < 0 then if 0 < p1 then 1 else 0 else 0 else if C_place < 0 then if 0 < p1 then 1 else 0 else 0) ∧ lv_has ls 3 [(0, .ref aC), (1, .long p1)] ∧ kAt G A s [(aC, .inr (0, [.long C_place, .long C_speed, .int C_posture, .int C_since, .int C_height, .int C_ticks, .int C_way, .int C_strength, .int C_drops, .int C_greatestDrop, .long C_otherPlace, .long C_otherSpeed]))] H locs) 44 (fun z0_2 => [.int z0_2]) (fun z0_2 H locs ls hv => ?_) (fun J_3 => ?_)
  · skip
    obtain ⟨ez0_2, hl, hq⟩ := hv
    have hf : (z0_2 : Int32) = fX0_passedMiddle p1 C_place := by
      exact ((congrArg (fun (z0_2 : Int32) => ((z0_2) : Int32)) ez0_2.symm)).symm
    have hz : (z0_2 : Int32) = 0 ∨ (z0_2 : Int32) = 1 := (by rw [ez0_2]; repeat (first | exact Or.inl rfl | exact Or.inr rfl | split))
    exact kk_ez hx hb hr hlocks hz hK hq [0] () rfl (by decide) dX0_passedMiddle_44 ⟨hf, hz⟩
  · skip
    refine kk_lc_eq (tgt := 39) hx hb dX0_passedMiddle_5 dX0_passedMiddle_6 (by decide) (fun c_1 => ?_) (fun c_1 => ?_)
    · skip
      refine lv_iconst (v := 1) hx hb dX0_passedMiddle_39 (by decide) ?_
      refine lv_goto (tgt := 44) hx hb dX0_passedMiddle_40 (by decide) ?_
      exact J_3 1 _ _ _ ⟨(if_pos c_1).symm, lv_sub hl [0, 1] rfl, hq⟩
    · skip
      refine lv_aload_n hx hb dX0_passedMiddle_9 rfl (lv_at hl 0 rfl) ?_
      refine kk_get (ci := 0) (v := .long C_place) (C := RX0) (T := TX0) (N := 12) hx hb hts iX0 hown hK hq 0 rfl rfl 0 (by decide) lk0_ rfl dX0_passedMiddle_10 ?_
      refine lv_lconst (v := 0) hx hb dX0_passedMiddle_13 (by decide) ?_
      refine kk_lc_le (tgt := 24) hx hb dX0_passedMiddle_14 dX0_passedMiddle_15 (by decide) (fun c_4 => ?_) (fun c_4 => ?_)
      · skip
        refine lv_aload_n hx hb dX0_passedMiddle_24 rfl (lv_at hl 0 rfl) ?_
        refine kk_get (ci := 0) (v := .long C_place) (C := RX0) (T := TX0) (N := 12) hx hb hts iX0 hown hK hq 0 rfl rfl 0 (by decide) lk0_ rfl dX0_passedMiddle_25 ?_
        refine lv_lconst (v := 0) hx hb dX0_passedMiddle_28 (by decide) ?_
        refine kk_lc_ge (tgt := 43) hx hb dX0_passedMiddle_29 dX0_passedMiddle_30 (by decide) (fun c_5 => ?_) (fun c_5 => ?_)
        · skip
          refine lv_iconst (v := 0) hx hb dX0_passedMiddle_43 (by decide) ?_
          exact J_3 0 _ _ _ ⟨((if_neg c_1).trans ((if_neg c_4).trans (if_neg c_5))).symm, lv_sub hl [0, 1] rfl, hq⟩
        · skip
          refine lv_lload_n hx hb dX0_passedMiddle_33 rfl (lv_at hl 1 rfl) ?_
          refine lv_lconst (v := 0) hx hb dX0_passedMiddle_34 (by decide) ?_
          refine kk_lc_le (tgt := 43) hx hb dX0_passedMiddle_35 dX0_passedMiddle_36 (by decide) (fun c_6 => ?_) (fun c_6 => ?_)
          · skip
            refine lv_iconst (v := 0) hx hb dX0_passedMiddle_43 (by decide) ?_
            exact J_3 0 _ _ _ ⟨((if_neg c_1).trans ((if_neg c_4).trans ((if_pos c_5).trans (if_neg c_6)))).symm, lv_sub hl [0, 1] rfl, hq⟩
          · skip
            refine lv_iconst (v := 1) hx hb dX0_passedMiddle_39 (by decide) ?_
            refine lv_goto (tgt := 44) hx hb dX0_passedMiddle_40 (by decide) ?_
            exact J_3 1 _ _ _ ⟨((if_neg c_1).trans ((if_neg c_4).trans ((if_pos c_5).trans (if_pos c_6)))).symm, lv_sub hl [0, 1] rfl, hq⟩
      · skip
        refine lv_lload_n hx hb dX0_passedMiddle_18 rfl (lv_at hl 1 rfl) ?_
        refine lv_lconst (v := 0) hx hb dX0_passedMiddle_19 (by decide) ?_
        refine kk_lc_lt (tgt := 39) hx hb dX0_passedMiddle_20 dX0_passedMiddle_21 (by decide) (fun c_7 => ?_) (fun c_7 => ?_)
        · skip
          refine lv_iconst (v := 1) hx hb dX0_passedMiddle_39 (by decide) ?_
          refine lv_goto (tgt := 44) hx hb dX0_passedMiddle_40 (by decide) ?_
          exact J_3 1 _ _ _ ⟨((if_neg c_1).trans ((if_pos c_4).trans (if_pos c_7))).symm, lv_sub hl [0, 1] rfl, hq⟩
        · skip
          refine lv_aload_n hx hb dX0_passedMiddle_24 rfl (lv_at hl 0 rfl) ?_
          refine kk_get (ci := 0) (v := .long C_place) (C := RX0) (T := TX0) (N := 12) hx hb hts iX0 hown hK hq 0 rfl rfl 0 (by decide) lk0_ rfl dX0_passedMiddle_25 ?_
          refine lv_lconst (v := 0) hx hb dX0_passedMiddle_28 (by decide) ?_
          refine kk_lc_ge (tgt := 43) hx hb dX0_passedMiddle_29 dX0_passedMiddle_30 (by decide) (fun c_8 => ?_) (fun c_8 => ?_)
          · skip
            refine lv_iconst (v := 0) hx hb dX0_passedMiddle_43 (by decide) ?_
            exact J_3 0 _ _ _ ⟨((if_neg c_1).trans ((if_pos c_4).trans ((if_neg c_7).trans (if_neg c_8)))).symm, lv_sub hl [0, 1] rfl, hq⟩
          · skip
            refine lv_lload_n hx hb dX0_passedMiddle_33 rfl (lv_at hl 1 rfl) ?_
            refine lv_lconst (v := 0) hx hb dX0_passedMiddle_34 (by decide) ?_
            refine kk_lc_le (tgt := 43) hx hb dX0_passedMiddle_35 dX0_passedMiddle_36 (by decide) (fun c_9 => ?_) (fun c_9 => ?_)
            · skip
              refine lv_iconst (v := 0) hx hb dX0_passedMiddle_43 (by decide) ?_
              exact J_3 0 _ _ _ ⟨((if_neg c_1).trans ((if_pos c_4).trans ((if_neg c_7).trans ((if_pos c_8).trans (if_neg c_9))))).symm, lv_sub hl [0, 1] rfl, hq⟩
            · skip
              refine lv_iconst (v := 1) hx hb dX0_passedMiddle_39 (by decide) ?_
              refine lv_goto (tgt := 44) hx hb dX0_passedMiddle_40 (by decide) ?_
              exact J_3 1 _ _ _ ⟨((if_neg c_1).trans ((if_pos c_4).trans ((if_neg c_7).trans ((if_pos c_8).trans (if_pos c_9))))).symm, lv_sub hl [0, 1] rfl, hq⟩
theorem hd_X0_bendToward : yX0_bendToward.cls = RX0 ∧ yX0_bendToward.cls ≠ "java/lang/invoke/MethodHandle" ∧ yX0_bendToward.cls ≠ "java/lang/invoke/VarHandle" ∧ (parseMethodDescriptor yX0_bendToward.desc).map (fun d => d.parameters.length) = some 2 := by decide +kernel
theorem hd_X0_drawBoth : yX0_drawBoth.cls = RX0 ∧ yX0_drawBoth.cls ≠ "java/lang/invoke/MethodHandle" ∧ yX0_drawBoth.cls ≠ "java/lang/invoke/VarHandle" ∧ (parseMethodDescriptor yX0_drawBoth.desc).map (fun d => d.parameters.length) = some 1 := by decide +kernel
theorem hd_X0_moveOther : yX0_moveOther.cls = RX0 ∧ yX0_moveOther.cls ≠ "java/lang/invoke/MethodHandle" ∧ yX0_moveOther.cls ≠ "java/lang/invoke/VarHandle" ∧ (parseMethodDescriptor yX0_moveOther.desc).map (fun d => d.parameters.length) = some 0 := by decide +kernel
theorem hd_X0_passedMiddle : yX0_passedMiddle.cls = RX0 ∧ yX0_passedMiddle.cls ≠ "java/lang/invoke/MethodHandle" ∧ yX0_passedMiddle.cls ≠ "java/lang/invoke/VarHandle" ∧ (parseMethodDescriptor yX0_passedMiddle.desc).map (fun d => d.parameters.length) = some 1 := by decide +kernel
theorem hd_X0_turnedBack : yX0_turnedBack.cls = RX0 ∧ yX0_turnedBack.cls ≠ "java/lang/invoke/MethodHandle" ∧ yX0_turnedBack.cls ≠ "java/lang/invoke/VarHandle" ∧ (parseMethodDescriptor yX0_turnedBack.desc).map (fun d => d.parameters.length) = some 0 := by decide +kernel
theorem hd_X0_wentSlack : yX0_wentSlack.cls = RX0 ∧ yX0_wentSlack.cls ≠ "java/lang/invoke/MethodHandle" ∧ yX0_wentSlack.cls ≠ "java/lang/invoke/VarHandle" ∧ (parseMethodDescriptor yX0_wentSlack.desc).map (fun d => d.parameters.length) = some 0 := by decide +kernel
def fX0_step (p2 : Int32) (p3 : Int32) (C_place : Int64) (C_speed : Int64) (C_posture : Int32) (C_since : Int32) (C_height : Int32) (C_ticks : Int32) (C_way : Int32) (C_strength : Int32) (C_drops : Int32) (C_greatestDrop : Int32) (C_otherPlace : Int64) (C_otherSpeed : Int64) (fN : Nat → Int32) : Int32 × Int64 × Int64 × Int32 × Int32 × Int32 × Int32 × Int32 × Int32 × Int32 × Int32 × Int64 × Int64 :=
  let u_1 : Int64 × Int32 × Int32 := fX0_bendToward p2 C_speed C_posture C_strength fN
  let speed_4 : Int64 := u_1.1 + p3.toInt64
  let u_5 : Int64 × Int64 := fX0_drawBoth C_place speed_4 u_1.2.1 C_otherPlace C_otherSpeed fN
  let place_8 : Int64 := C_place + u_5.1
  let u_9 : Int64 × Int64 := fX0_moveOther C_otherPlace u_5.2
  let r_13 : Int32 := (fX0_wentSlack place_8 u_5.1 C_way C_drops C_greatestDrop).1
  let u_12 : Int64 × Int64 × Int32 × Int32 × Int32 := (fX0_wentSlack place_8 u_5.1 C_way C_drops C_greatestDrop).2
  let z0_16 : Int32 := if r_13 = 0 then if (fX0_turnedBack u_12.2.1 u_12.2.2.1).1 = 0 then 0 else 1 else 1
  let way_17 : Int32 := if r_13 = 0 then (fX0_turnedBack u_12.2.1 u_12.2.2.1).2 else u_12.2.2.1
  let height_20 : Int32 := if z0_16 = 0 then C_height else fX0_distance u_12.1
  let r_23 : Int32 := fX0_passedMiddle C_place u_12.1
  let z0_26 : Int32 := if r_23 = 0 then C_since + 1 else 0
  let ticks_28 : Int32 := C_ticks + 1
  (z0_16, u_12.1, u_12.2.1, u_1.2.1, z0_26, height_20, ticks_28, way_17, u_1.2.2, u_12.2.2.2.1, u_12.2.2.2.2, u_9.1, u_9.2)

set_option maxHeartbeats 4000000 in
set_option maxRecDepth 100000 in
theorem c_X0_step (l : Launch) (G : va_G) (aC aN : Nat) (cN : ClassId) (p2 : Int32) (p3 : Int32) (C_place : Int64) (C_speed : Int64) (C_posture : Int32) (C_since : Int32) (C_height : Int32) (C_ticks : Int32) (C_way : Int32) (C_strength : Int32) (C_drops : Int32) (C_greatestDrop : Int32) (C_otherPlace : Int64) (C_otherSpeed : Int64) (fN : Nat → Int32) : kCi l yX0_step (Cond.code yX0_step cX0_step 7 (some .boolean) :: wsL_law) ({ frames := 3, cells := 0, slots := 0, locals := 80 }) G [(cN, .int)] [.ref aC, .ref aN, .int p2, .int p3] [(aC, .inr (0, [.long C_place, .long C_speed, .int C_posture, .int C_since, .int C_height, .int C_ticks, .int C_way, .int C_strength, .int C_drops, .int C_greatestDrop, .long C_otherPlace, .long C_otherSpeed])), (aN, .inl (cN, 8, .inl fN))] (fun (r : Int32) (u : Int64 × Int64 × Int32 × Int32 × Int32 × Int32 × Int32 × Int32 × Int32 × Int32 × Int64 × Int64) => r = (fX0_step p2 p3 C_place C_speed C_posture C_since C_height C_ticks C_way C_strength C_drops C_greatestDrop C_otherPlace C_otherSpeed fN).1 ∧ u = (fX0_step p2 p3 C_place C_speed C_posture C_since C_height C_ticks C_way C_strength C_drops C_greatestDrop C_otherPlace C_otherSpeed fN).2 ∧ (r = 0 ∨ r = 1)) (fun (u : Int64 × Int64 × Int32 × Int32 × Int32 × Int32 × Int32 × Int32 × Int32 × Int32 × Int64 × Int64) => [(aC, .inr (0, [.long u.1, .long u.2.1, .int u.2.2.1, .int u.2.2.2.1, .int u.2.2.2.2.1, .int u.2.2.2.2.2.1, .int u.2.2.2.2.2.2.1, .int u.2.2.2.2.2.2.2.1, .int u.2.2.2.2.2.2.2.2.1, .int u.2.2.2.2.2.2.2.2.2.1, .long u.2.2.2.2.2.2.2.2.2.2.1, .long u.2.2.2.2.2.2.2.2.2.2.2])), (aN, .inl (cN, 8, .inl fN))]) := by
  intro sz
  refine Met.ofW (cc := cX0_step) (maxL := 7) (ret := (some .boolean)) (by decide) rfl ?_
  intro p e s m args below meth c s₁ B hml hv
  obtain ⟨rfl, hv⟩ := hv
  obtain ⟨rfl, hK, hq, hA⟩ := kk_begin hv
  have hx := B.exec
  have hb := B.bytes
  have hr := B.returns
  have hts := atoms_spec (ws := (Cond.code yX0_step cX0_step 7 (some .boolean) :: wsL_law)) B.pre
  have hown : s.vm.findClass RX0 = some m.cls := findClass_of_methodNamed B.named
  have hlocks := B.notSynchronized
  have hsb : ∀ w ∈ wsL_law, w ∈ (Cond.code yX0_step cX0_step 7 (some .boolean) :: wsL_law) := fun _ h => List.mem_cons_of_mem _ h
  generalize va_A [(aC, .inr (0, [.long C_place, .long C_speed, .int C_posture, .int C_since, .int C_height, .int C_ticks, .int C_way, .int C_strength, .int C_drops, .int C_greatestDrop, .long C_otherPlace, .long C_otherSpeed])), (aN, .inl (cN, 8, .inl fN))] s.heap.size = A at hq hA ⊢
  have iX0 : ∀ w ∈ u_ws RX0 TX0 12, w ∈ (Cond.code yX0_step cX0_step 7 (some .boolean) :: wsL_law) := fun w h => hsb w (bin_X0 w h)
  have lk0_ := hts _ (hsb _ wd_78)
  have lk1_ := hts _ (hsb _ wd_79)
  have lk2_ := hts _ (hsb _ wd_82)
  have lk3_ := hts _ (hsb _ wd_81)
  have lk4_ := hts _ (hsb _ wd_83)
  have hl := lv_entry ([.ref aC, .ref aN, .int p2, .int p3]) (n := 7) (Nat.le_of_ble_eq_true rfl)
  rw [lg_entry_eq]
  generalize (lg_sl ([.ref aC, .ref aN, .int p2, .int p3]) ++ List.replicate (7 - (lg_sl ([.ref aC, .ref aN, .int p2, .int p3])).length) Slot.unset).toArray = ls at hl ⊢
  have hl : lv_has ls 7 [(0, .ref aC), (1, .ref aN), (2, .int p2), (3, .int p3)] := hl
  refine lv_aload_n hx hb dX0_step_0 rfl (lv_at hl 0 rfl) ?_
  refine kk_get (ci := 0) (v := .long C_place) (C := RX0) (T := TX0) (N := 12) hx hb hts iX0 hown hK hq 0 rfl rfl 0 (by decide) lk0_ rfl dX0_step_1 ?_
  refine lv_lstore (lv' := [(4, .long C_place), (0, .ref aC), (1, .ref aN), (2, .int p2), (3, .int p3)]) hx hb dX0_step_4 hl (by decide) rfl (fun ls hl => ?_)
  refine lv_aload_n hx hb dX0_step_6 rfl (lv_at hl 1 rfl) ?_
  refine lv_iload_n hx hb dX0_step_7 rfl (lv_at hl 3 rfl) ?_
  refine lv_aload_n hx hb dX0_step_8 rfl (lv_at hl 2 rfl) ?_
  refine kk_Vv (As := [.int p2, .ref aN]) (rest := []) (wr := []) ⟨hx, hb, hml, hown, hts⟩ (c_X0_bendToward l G aC aN cN p2 C_place C_speed C_posture C_since C_height C_ticks C_way C_strength C_drops C_greatestDrop C_otherPlace C_otherSpeed fN) (kk_cwV 2 hts hsb wd_471 wd_472 wd_473 wd_30 wd_474 rfl rfl hd_X0_bendToward ⟨Nat.le_of_ble_eq_true rfl, Nat.le_of_ble_eq_true rfl⟩) hA hK hq [0, 1] [] [0] rfl rfl rfl (by decide) (by decide) (by decide) 0 0 rfl rfl rfl rfl hl.1 rfl (Nat.le_of_ble_eq_true rfl) dX0_step_9 ⟨Nat.zero_le _, Nat.zero_le _⟩ (fun u_1 H locs h_3 hq => ?_)
  have eu_1 := h_3
  have hq : kAt G A s [(aC, .inr (0, [.long C_place, .long u_1.1, .int u_1.2.1, .int C_since, .int C_height, .int C_ticks, .int C_way, .int u_1.2.2, .int C_drops, .int C_greatestDrop, .long C_otherPlace, .long C_otherSpeed])), (aN, .inl (cN, 8, .inl fN))] H locs := hq
  refine lv_aload_n hx hb dX0_step_12 rfl (lv_at hl 1 rfl) ?_
  refine lv_dup hx hb dX0_step_13 rfl ?_
  refine kk_get (ci := 0) (v := .long u_1.1) (C := RX0) (T := TX0) (N := 12) hx hb hts iX0 hown hK hq 0 rfl rfl 1 (by decide) lk1_ rfl dX0_step_14 ?_
  refine lv_iload_n hx hb dX0_step_17 rfl (lv_at hl 4 rfl) ?_
  refine lv_i2l hx hb dX0_step_18 rfl ?_
  refine lv_ladd hx hb dX0_step_19 ?_
  refine lv_topl (fun speed_4 espeed_4 => ?_)
  refine kk_put (ws' := [(aC, .inr (0, [.long C_place, .long speed_4, .int u_1.2.1, .int C_since, .int C_height, .int C_ticks, .int C_way, .int u_1.2.2, .int C_drops, .int C_greatestDrop, .long C_otherPlace, .long C_otherSpeed])), (aN, .inl (cN, 8, .inl fN))]) (ci := 0) (v := .long speed_4) (C := RX0) (T := TX0) (N := 12) hx hb hts iX0 tyX0_ok nmX0 hown hK hq 0 rfl rfl 1 (by decide) lk1_ rfl rfl rfl (Nat.le_of_ble_eq_true rfl) dX0_step_20 rfl (fun H locs hq => ?_)
  refine lv_aload_n hx hb dX0_step_23 rfl (lv_at hl 1 rfl) ?_
  refine lv_aload_n hx hb dX0_step_24 rfl (lv_at hl 2 rfl) ?_
  refine kk_Vv (As := [.ref aN]) (rest := []) (wr := []) ⟨hx, hb, hml, hown, hts⟩ (c_X0_drawBoth l G aC aN cN C_place speed_4 u_1.2.1 C_since C_height C_ticks C_way u_1.2.2 C_drops C_greatestDrop C_otherPlace C_otherSpeed fN) (kk_cwV 1 hts hsb wd_500 wd_501 wd_502 wd_30 wd_503 rfl rfl hd_X0_drawBoth ⟨Nat.le_of_ble_eq_true rfl, Nat.le_of_ble_eq_true rfl⟩) hA hK hq [0, 1] [] [0] rfl rfl rfl (by decide) (by decide) (by decide) 0 0 rfl rfl rfl rfl hl.1 rfl (Nat.le_of_ble_eq_true rfl) dX0_step_25 ⟨Nat.zero_le _, Nat.zero_le _⟩ (fun u_5 H locs h_7 hq => ?_)
  have eu_5 := h_7
  have hq : kAt G A s [(aC, .inr (0, [.long C_place, .long u_5.1, .int u_1.2.1, .int C_since, .int C_height, .int C_ticks, .int C_way, .int u_1.2.2, .int C_drops, .int C_greatestDrop, .long C_otherPlace, .long u_5.2])), (aN, .inl (cN, 8, .inl fN))] H locs := hq
  refine lv_aload_n hx hb dX0_step_28 rfl (lv_at hl 1 rfl) ?_
  refine lv_dup hx hb dX0_step_29 rfl ?_
  refine kk_get (ci := 0) (v := .long C_place) (C := RX0) (T := TX0) (N := 12) hx hb hts iX0 hown hK hq 0 rfl rfl 0 (by decide) lk0_ rfl dX0_step_30 ?_
  refine lv_aload_n hx hb dX0_step_33 rfl (lv_at hl 1 rfl) ?_
  refine kk_get (ci := 0) (v := .long u_5.1) (C := RX0) (T := TX0) (N := 12) hx hb hts iX0 hown hK hq 0 rfl rfl 1 (by decide) lk1_ rfl dX0_step_34 ?_
  refine lv_ladd hx hb dX0_step_37 ?_
  refine lv_topl (fun place_8 eplace_8 => ?_)
  refine kk_put (ws' := [(aC, .inr (0, [.long place_8, .long u_5.1, .int u_1.2.1, .int C_since, .int C_height, .int C_ticks, .int C_way, .int u_1.2.2, .int C_drops, .int C_greatestDrop, .long C_otherPlace, .long u_5.2])), (aN, .inl (cN, 8, .inl fN))]) (ci := 0) (v := .long place_8) (C := RX0) (T := TX0) (N := 12) hx hb hts iX0 tyX0_ok nmX0 hown hK hq 0 rfl rfl 0 (by decide) lk0_ rfl rfl rfl (Nat.le_of_ble_eq_true rfl) dX0_step_38 rfl (fun H locs hq => ?_)
  refine lv_aload_n hx hb dX0_step_41 rfl (lv_at hl 1 rfl) ?_
  refine kk_Vv (As := []) (rest := []) (wr := [(aN, .inl (cN, 8, .inl fN))]) ⟨hx, hb, hml, hown, hts⟩ (c_X0_moveOther l G aC place_8 u_5.1 u_1.2.1 C_since C_height C_ticks C_way u_1.2.2 C_drops C_greatestDrop C_otherPlace u_5.2) (kk_cwV 0 hts hsb wd_505 wd_506 wd_507 wd_30 wd_508 rfl rfl hd_X0_moveOther ⟨Nat.le_of_ble_eq_true rfl, Nat.le_of_ble_eq_true rfl⟩) hA hK hq [0] [1] [] rfl rfl rfl (by decide) (by decide) (by decide) 0 0 rfl rfl rfl rfl hl.1 rfl (Nat.le_of_ble_eq_true rfl) dX0_step_42 ⟨Nat.zero_le _, Nat.zero_le _⟩ (fun u_9 H locs h_11 hq => ?_)
  have eu_9 := h_11
  have hq : kAt G A s [(aN, .inl (cN, 8, .inl fN)), (aC, .inr (0, [.long place_8, .long u_5.1, .int u_1.2.1, .int C_since, .int C_height, .int C_ticks, .int C_way, .int u_1.2.2, .int C_drops, .int C_greatestDrop, .long u_9.1, .long u_9.2]))] H locs := hq
  refine lv_aload_n hx hb dX0_step_45 rfl (lv_at hl 1 rfl) ?_
  refine kk_Vi (As := []) (rest := []) (wr := [(aN, .inl (cN, 8, .inl fN))]) ⟨hx, hb, hml, hown, hts⟩ (c_X0_wentSlack l G aC place_8 u_5.1 u_1.2.1 C_since C_height C_ticks C_way u_1.2.2 C_drops C_greatestDrop u_9.1 u_9.2) (kk_cwV 0 hts hsb wd_511 wd_512 wd_513 wd_30 wd_514 rfl rfl hd_X0_wentSlack ⟨Nat.le_of_ble_eq_true rfl, Nat.le_of_ble_eq_true rfl⟩) hA hK hq [1] [0] [] rfl rfl rfl (by decide) (by decide) (by decide) 0 0 rfl rfl rfl rfl hl.1 rfl (Nat.le_of_ble_eq_true rfl) dX0_step_46 ⟨Nat.zero_le _, Nat.zero_le _⟩ (fun r_13 u_12 H locs h_14 hq => ?_)
  obtain ⟨er_13, eu_12, zr_13⟩ := h_14
  have hq : kAt G A s [(aN, .inl (cN, 8, .inl fN)), (aC, .inr (0, [.long u_12.1, .long u_12.2.1, .int u_1.2.1, .int C_since, .int C_height, .int C_ticks, .int u_12.2.2.1, .int u_1.2.2, .int u_12.2.2.2.1, .int u_12.2.2.2.2, .long u_9.1, .long u_9.2]))] H locs := hq
  refine kk_join2 (fun (z0_16 : Int32) (way_17 : Int32) (H : Heap) (locs : List Loc) (ls : Array Slot) => z0_16 = (if r_13 = 0 then if (fX0_turnedBack u_12.2.1 u_12.2.2.1).1 = 0 then 0 else 1 else 1) ∧ way_17 = (if r_13 = 0 then (fX0_turnedBack u_12.2.1 u_12.2.2.1).2 else u_12.2.2.1) ∧ lv_has ls 7 [(4, .long C_place), (0, .ref aC), (1, .ref aN), (2, .int p2), (3, .int p3)] ∧ kAt G A s [(aN, .inl (cN, 8, .inl fN)), (aC, .inr (0, [.long u_12.1, .long u_12.2.1, .int u_1.2.1, .int C_since, .int C_height, .int C_ticks, .int way_17, .int u_1.2.2, .int u_12.2.2.2.1, .int u_12.2.2.2.2, .long u_9.1, .long u_9.2]))] H locs) 64 (fun z0_16 way_17 => [.int z0_16]) (fun z0_16 way_17 H locs ls hv => ?_) (fun J_18 => ?_)
  · skip
    obtain ⟨ez0_16, eway_17, hl, hq⟩ := hv
    refine lv_istore (lv' := [(6, .int z0_16), (4, .long C_place), (0, .ref aC), (1, .ref aN), (2, .int p2), (3, .int p3)]) hx hb dX0_step_64 hl (by decide) rfl (fun ls hl => ?_)
    refine lv_iload hx hb dX0_step_66 (lv_at hl 0 rfl) ?_
    refine kk_join1 (fun (height_20 : Int32) (H : Heap) (locs : List Loc) (ls : Array Slot) => height_20 = (if z0_16 = 0 then C_height else fX0_distance u_12.1) ∧ lv_has ls 7 [(6, .int z0_16), (4, .long C_place), (0, .ref aC), (1, .ref aN), (2, .int p2), (3, .int p3)] ∧ kAt G A s [(aN, .inl (cN, 8, .inl fN)), (aC, .inr (0, [.long u_12.1, .long u_12.2.1, .int u_1.2.1, .int C_since, .int height_20, .int C_ticks, .int way_17, .int u_1.2.2, .int u_12.2.2.2.1, .int u_12.2.2.2.2, .long u_9.1, .long u_9.2]))] H locs) 79 (fun height_20 => []) (fun height_20 H locs ls hv => ?_) (fun J_21 => ?_)
    · skip
      obtain ⟨eheight_20, hl, hq⟩ := hv
      refine lv_aload_n hx hb dX0_step_79 rfl (lv_at hl 2 rfl) ?_
      refine lv_aload_n hx hb dX0_step_80 rfl (lv_at hl 2 rfl) ?_
      refine lv_lload hx hb dX0_step_81 (lv_at hl 1 rfl) ?_
      refine kk_Vi (As := [.long C_place]) (rest := [.ref aC]) (wr := [(aN, .inl (cN, 8, .inl fN))]) ⟨hx, hb, hml, hown, hts⟩ (c_X0_passedMiddle l G aC C_place u_12.1 u_12.2.1 u_1.2.1 C_since height_20 C_ticks way_17 u_1.2.2 u_12.2.2.2.1 u_12.2.2.2.2 u_9.1 u_9.2) (kk_cwV 1 hts hsb wd_520 wd_521 wd_522 wd_30 wd_523 rfl rfl hd_X0_passedMiddle ⟨Nat.le_of_ble_eq_true rfl, Nat.le_of_ble_eq_true rfl⟩) hA hK hq [1] [0] [] rfl rfl rfl (by decide) (by decide) (by decide) 0 0 rfl rfl rfl rfl hl.1 rfl (Nat.le_of_ble_eq_true rfl) dX0_step_83 ⟨Nat.zero_le _, Nat.zero_le _⟩ (fun r_23 u_22 H locs h_24 hq => ?_)
      obtain ⟨er_23, zr_23⟩ := h_24
      have hq : kAt G A s [(aN, .inl (cN, 8, .inl fN)), (aC, .inr (0, [.long u_12.1, .long u_12.2.1, .int u_1.2.1, .int C_since, .int height_20, .int C_ticks, .int way_17, .int u_1.2.2, .int u_12.2.2.2.1, .int u_12.2.2.2.2, .long u_9.1, .long u_9.2]))] H locs := hq
      refine kk_join1 (fun (z0_26 : Int32) (H : Heap) (locs : List Loc) (ls : Array Slot) => z0_26 = (if r_23 = 0 then C_since + 1 else 0) ∧ lv_has ls 7 [(6, .int z0_16), (4, .long C_place), (0, .ref aC), (1, .ref aN), (2, .int p2), (3, .int p3)] ∧ kAt G A s [(aN, .inl (cN, 8, .inl fN)), (aC, .inr (0, [.long u_12.1, .long u_12.2.1, .int u_1.2.1, .int C_since, .int height_20, .int C_ticks, .int way_17, .int u_1.2.2, .int u_12.2.2.2.1, .int u_12.2.2.2.2, .long u_9.1, .long u_9.2]))] H locs) 99 (fun z0_26 => [.int z0_26, .ref aC]) (fun z0_26 H locs ls hv => ?_) (fun J_27 => ?_)
      · skip
        obtain ⟨ez0_26, hl, hq⟩ := hv
        refine kk_put (ws' := [(aN, .inl (cN, 8, .inl fN)), (aC, .inr (0, [.long u_12.1, .long u_12.2.1, .int u_1.2.1, .int z0_26, .int height_20, .int C_ticks, .int way_17, .int u_1.2.2, .int u_12.2.2.2.1, .int u_12.2.2.2.2, .long u_9.1, .long u_9.2]))]) (ci := 0) (v := .int z0_26) (C := RX0) (T := TX0) (N := 12) hx hb hts iX0 tyX0_ok nmX0 hown hK hq 1 rfl rfl 3 (by decide) lk3_ rfl rfl rfl (Nat.le_of_ble_eq_true rfl) dX0_step_99 rfl (fun H locs hq => ?_)
        refine lv_aload_n hx hb dX0_step_102 rfl (lv_at hl 2 rfl) ?_
        refine lv_dup hx hb dX0_step_103 rfl ?_
        refine kk_get (ci := 0) (v := .int C_ticks) (C := RX0) (T := TX0) (N := 12) hx hb hts iX0 hown hK hq 1 rfl rfl 5 (by decide) lk4_ rfl dX0_step_104 ?_
        refine lv_iconst (v := 1) hx hb dX0_step_107 (by decide) ?_
        refine lv_iadd hx hb dX0_step_108 ?_
        refine lv_topi (fun ticks_28 eticks_28 => ?_)
        refine kk_put (ws' := [(aN, .inl (cN, 8, .inl fN)), (aC, .inr (0, [.long u_12.1, .long u_12.2.1, .int u_1.2.1, .int z0_26, .int height_20, .int ticks_28, .int way_17, .int u_1.2.2, .int u_12.2.2.2.1, .int u_12.2.2.2.2, .long u_9.1, .long u_9.2]))]) (ci := 0) (v := .int ticks_28) (C := RX0) (T := TX0) (N := 12) hx hb hts iX0 tyX0_ok nmX0 hown hK hq 1 rfl rfl 5 (by decide) lk4_ rfl rfl rfl (Nat.le_of_ble_eq_true rfl) dX0_step_109 rfl (fun H locs hq => ?_)
        refine lv_iload hx hb dX0_step_112 (lv_at hl 0 rfl) ?_
        have hf : ((z0_16, u_12.1, u_12.2.1, u_1.2.1, z0_26, height_20, ticks_28, way_17, u_1.2.2, u_12.2.2.2.1, u_12.2.2.2.2, u_9.1, u_9.2) : Int32 × Int64 × Int64 × Int32 × Int32 × Int32 × Int32 × Int32 × Int32 × Int32 × Int32 × Int64 × Int64) = fX0_step p2 p3 C_place C_speed C_posture C_since C_height C_ticks C_way C_strength C_drops C_greatestDrop C_otherPlace C_otherSpeed fN := by
          exact ((congrArg (fun (u_1 : Int64 × Int32 × Int32) => ((let speed_4 : Int64 := u_1.1 + p3.toInt64
  let u_5 : Int64 × Int64 := fX0_drawBoth C_place speed_4 u_1.2.1 C_otherPlace C_otherSpeed fN
  let place_8 : Int64 := C_place + u_5.1
  let u_9 : Int64 × Int64 := fX0_moveOther C_otherPlace u_5.2
  let r_13 : Int32 := (fX0_wentSlack place_8 u_5.1 C_way C_drops C_greatestDrop).1
  let u_12 : Int64 × Int64 × Int32 × Int32 × Int32 := (fX0_wentSlack place_8 u_5.1 C_way C_drops C_greatestDrop).2
  let z0_16 : Int32 := if r_13 = 0 then if (fX0_turnedBack u_12.2.1 u_12.2.2.1).1 = 0 then 0 else 1 else 1
  let way_17 : Int32 := if r_13 = 0 then (fX0_turnedBack u_12.2.1 u_12.2.2.1).2 else u_12.2.2.1
  let height_20 : Int32 := if z0_16 = 0 then C_height else fX0_distance u_12.1
  let r_23 : Int32 := fX0_passedMiddle C_place u_12.1
  let z0_26 : Int32 := if r_23 = 0 then C_since + 1 else 0
  let ticks_28 : Int32 := C_ticks + 1
  (z0_16, u_12.1, u_12.2.1, u_1.2.1, z0_26, height_20, ticks_28, way_17, u_1.2.2, u_12.2.2.2.1, u_12.2.2.2.2, u_9.1, u_9.2)) : Int32 × Int64 × Int64 × Int32 × Int32 × Int32 × Int32 × Int32 × Int32 × Int32 × Int32 × Int64 × Int64)) eu_1.symm).trans ((congrArg (fun (speed_4 : Int64) => ((let u_5 : Int64 × Int64 := fX0_drawBoth C_place speed_4 u_1.2.1 C_otherPlace C_otherSpeed fN
  let place_8 : Int64 := C_place + u_5.1
  let u_9 : Int64 × Int64 := fX0_moveOther C_otherPlace u_5.2
  let r_13 : Int32 := (fX0_wentSlack place_8 u_5.1 C_way C_drops C_greatestDrop).1
  let u_12 : Int64 × Int64 × Int32 × Int32 × Int32 := (fX0_wentSlack place_8 u_5.1 C_way C_drops C_greatestDrop).2
  let z0_16 : Int32 := if r_13 = 0 then if (fX0_turnedBack u_12.2.1 u_12.2.2.1).1 = 0 then 0 else 1 else 1
  let way_17 : Int32 := if r_13 = 0 then (fX0_turnedBack u_12.2.1 u_12.2.2.1).2 else u_12.2.2.1
  let height_20 : Int32 := if z0_16 = 0 then C_height else fX0_distance u_12.1
  let r_23 : Int32 := fX0_passedMiddle C_place u_12.1
  let z0_26 : Int32 := if r_23 = 0 then C_since + 1 else 0
  let ticks_28 : Int32 := C_ticks + 1
  (z0_16, u_12.1, u_12.2.1, u_1.2.1, z0_26, height_20, ticks_28, way_17, u_1.2.2, u_12.2.2.2.1, u_12.2.2.2.2, u_9.1, u_9.2)) : Int32 × Int64 × Int64 × Int32 × Int32 × Int32 × Int32 × Int32 × Int32 × Int32 × Int32 × Int64 × Int64)) espeed_4.symm).trans ((congrArg (fun (u_5 : Int64 × Int64) => ((let place_8 : Int64 := C_place + u_5.1
  let u_9 : Int64 × Int64 := fX0_moveOther C_otherPlace u_5.2
  let r_13 : Int32 := (fX0_wentSlack place_8 u_5.1 C_way C_drops C_greatestDrop).1
  let u_12 : Int64 × Int64 × Int32 × Int32 × Int32 := (fX0_wentSlack place_8 u_5.1 C_way C_drops C_greatestDrop).2
  let z0_16 : Int32 := if r_13 = 0 then if (fX0_turnedBack u_12.2.1 u_12.2.2.1).1 = 0 then 0 else 1 else 1
  let way_17 : Int32 := if r_13 = 0 then (fX0_turnedBack u_12.2.1 u_12.2.2.1).2 else u_12.2.2.1
  let height_20 : Int32 := if z0_16 = 0 then C_height else fX0_distance u_12.1
  let r_23 : Int32 := fX0_passedMiddle C_place u_12.1
  let z0_26 : Int32 := if r_23 = 0 then C_since + 1 else 0
  let ticks_28 : Int32 := C_ticks + 1
  (z0_16, u_12.1, u_12.2.1, u_1.2.1, z0_26, height_20, ticks_28, way_17, u_1.2.2, u_12.2.2.2.1, u_12.2.2.2.2, u_9.1, u_9.2)) : Int32 × Int64 × Int64 × Int32 × Int32 × Int32 × Int32 × Int32 × Int32 × Int32 × Int32 × Int64 × Int64)) eu_5.symm).trans ((congrArg (fun (place_8 : Int64) => ((let u_9 : Int64 × Int64 := fX0_moveOther C_otherPlace u_5.2
  let r_13 : Int32 := (fX0_wentSlack place_8 u_5.1 C_way C_drops C_greatestDrop).1
  let u_12 : Int64 × Int64 × Int32 × Int32 × Int32 := (fX0_wentSlack place_8 u_5.1 C_way C_drops C_greatestDrop).2
  let z0_16 : Int32 := if r_13 = 0 then if (fX0_turnedBack u_12.2.1 u_12.2.2.1).1 = 0 then 0 else 1 else 1
  let way_17 : Int32 := if r_13 = 0 then (fX0_turnedBack u_12.2.1 u_12.2.2.1).2 else u_12.2.2.1
  let height_20 : Int32 := if z0_16 = 0 then C_height else fX0_distance u_12.1
  let r_23 : Int32 := fX0_passedMiddle C_place u_12.1
  let z0_26 : Int32 := if r_23 = 0 then C_since + 1 else 0
  let ticks_28 : Int32 := C_ticks + 1
  (z0_16, u_12.1, u_12.2.1, u_1.2.1, z0_26, height_20, ticks_28, way_17, u_1.2.2, u_12.2.2.2.1, u_12.2.2.2.2, u_9.1, u_9.2)) : Int32 × Int64 × Int64 × Int32 × Int32 × Int32 × Int32 × Int32 × Int32 × Int32 × Int32 × Int64 × Int64)) eplace_8.symm).trans ((congrArg (fun (u_9 : Int64 × Int64) => ((let r_13 : Int32 := (fX0_wentSlack place_8 u_5.1 C_way C_drops C_greatestDrop).1
  let u_12 : Int64 × Int64 × Int32 × Int32 × Int32 := (fX0_wentSlack place_8 u_5.1 C_way C_drops C_greatestDrop).2
  let z0_16 : Int32 := if r_13 = 0 then if (fX0_turnedBack u_12.2.1 u_12.2.2.1).1 = 0 then 0 else 1 else 1
  let way_17 : Int32 := if r_13 = 0 then (fX0_turnedBack u_12.2.1 u_12.2.2.1).2 else u_12.2.2.1
  let height_20 : Int32 := if z0_16 = 0 then C_height else fX0_distance u_12.1
  let r_23 : Int32 := fX0_passedMiddle C_place u_12.1
  let z0_26 : Int32 := if r_23 = 0 then C_since + 1 else 0
  let ticks_28 : Int32 := C_ticks + 1
  (z0_16, u_12.1, u_12.2.1, u_1.2.1, z0_26, height_20, ticks_28, way_17, u_1.2.2, u_12.2.2.2.1, u_12.2.2.2.2, u_9.1, u_9.2)) : Int32 × Int64 × Int64 × Int32 × Int32 × Int32 × Int32 × Int32 × Int32 × Int32 × Int32 × Int64 × Int64)) eu_9.symm).trans ((congrArg (fun (r_13 : Int32) => ((let u_12 : Int64 × Int64 × Int32 × Int32 × Int32 := (fX0_wentSlack place_8 u_5.1 C_way C_drops C_greatestDrop).2
  let z0_16 : Int32 := if r_13 = 0 then if (fX0_turnedBack u_12.2.1 u_12.2.2.1).1 = 0 then 0 else 1 else 1
  let way_17 : Int32 := if r_13 = 0 then (fX0_turnedBack u_12.2.1 u_12.2.2.1).2 else u_12.2.2.1
  let height_20 : Int32 := if z0_16 = 0 then C_height else fX0_distance u_12.1
  let r_23 : Int32 := fX0_passedMiddle C_place u_12.1
  let z0_26 : Int32 := if r_23 = 0 then C_since + 1 else 0
  let ticks_28 : Int32 := C_ticks + 1
  (z0_16, u_12.1, u_12.2.1, u_1.2.1, z0_26, height_20, ticks_28, way_17, u_1.2.2, u_12.2.2.2.1, u_12.2.2.2.2, u_9.1, u_9.2)) : Int32 × Int64 × Int64 × Int32 × Int32 × Int32 × Int32 × Int32 × Int32 × Int32 × Int32 × Int64 × Int64)) er_13.symm).trans ((congrArg (fun (u_12 : Int64 × Int64 × Int32 × Int32 × Int32) => ((let z0_16 : Int32 := if r_13 = 0 then if (fX0_turnedBack u_12.2.1 u_12.2.2.1).1 = 0 then 0 else 1 else 1
  let way_17 : Int32 := if r_13 = 0 then (fX0_turnedBack u_12.2.1 u_12.2.2.1).2 else u_12.2.2.1
  let height_20 : Int32 := if z0_16 = 0 then C_height else fX0_distance u_12.1
  let r_23 : Int32 := fX0_passedMiddle C_place u_12.1
  let z0_26 : Int32 := if r_23 = 0 then C_since + 1 else 0
  let ticks_28 : Int32 := C_ticks + 1
  (z0_16, u_12.1, u_12.2.1, u_1.2.1, z0_26, height_20, ticks_28, way_17, u_1.2.2, u_12.2.2.2.1, u_12.2.2.2.2, u_9.1, u_9.2)) : Int32 × Int64 × Int64 × Int32 × Int32 × Int32 × Int32 × Int32 × Int32 × Int32 × Int32 × Int64 × Int64)) eu_12.symm).trans ((congrArg (fun (z0_16 : Int32) => ((let way_17 : Int32 := if r_13 = 0 then (fX0_turnedBack u_12.2.1 u_12.2.2.1).2 else u_12.2.2.1
  let height_20 : Int32 := if z0_16 = 0 then C_height else fX0_distance u_12.1
  let r_23 : Int32 := fX0_passedMiddle C_place u_12.1
  let z0_26 : Int32 := if r_23 = 0 then C_since + 1 else 0
  let ticks_28 : Int32 := C_ticks + 1
  (z0_16, u_12.1, u_12.2.1, u_1.2.1, z0_26, height_20, ticks_28, way_17, u_1.2.2, u_12.2.2.2.1, u_12.2.2.2.2, u_9.1, u_9.2)) : Int32 × Int64 × Int64 × Int32 × Int32 × Int32 × Int32 × Int32 × Int32 × Int32 × Int32 × Int64 × Int64)) ez0_16.symm).trans ((congrArg (fun (way_17 : Int32) => ((let height_20 : Int32 := if z0_16 = 0 then C_height else fX0_distance u_12.1
  let r_23 : Int32 := fX0_passedMiddle C_place u_12.1
  let z0_26 : Int32 := if r_23 = 0 then C_since + 1 else 0
  let ticks_28 : Int32 := C_ticks + 1
  (z0_16, u_12.1, u_12.2.1, u_1.2.1, z0_26, height_20, ticks_28, way_17, u_1.2.2, u_12.2.2.2.1, u_12.2.2.2.2, u_9.1, u_9.2)) : Int32 × Int64 × Int64 × Int32 × Int32 × Int32 × Int32 × Int32 × Int32 × Int32 × Int32 × Int64 × Int64)) eway_17.symm).trans ((congrArg (fun (height_20 : Int32) => ((let r_23 : Int32 := fX0_passedMiddle C_place u_12.1
  let z0_26 : Int32 := if r_23 = 0 then C_since + 1 else 0
  let ticks_28 : Int32 := C_ticks + 1
  (z0_16, u_12.1, u_12.2.1, u_1.2.1, z0_26, height_20, ticks_28, way_17, u_1.2.2, u_12.2.2.2.1, u_12.2.2.2.2, u_9.1, u_9.2)) : Int32 × Int64 × Int64 × Int32 × Int32 × Int32 × Int32 × Int32 × Int32 × Int32 × Int32 × Int64 × Int64)) eheight_20.symm).trans ((congrArg (fun (r_23 : Int32) => ((let z0_26 : Int32 := if r_23 = 0 then C_since + 1 else 0
  let ticks_28 : Int32 := C_ticks + 1
  (z0_16, u_12.1, u_12.2.1, u_1.2.1, z0_26, height_20, ticks_28, way_17, u_1.2.2, u_12.2.2.2.1, u_12.2.2.2.2, u_9.1, u_9.2)) : Int32 × Int64 × Int64 × Int32 × Int32 × Int32 × Int32 × Int32 × Int32 × Int32 × Int32 × Int64 × Int64)) er_23.symm).trans ((congrArg (fun (z0_26 : Int32) => ((let ticks_28 : Int32 := C_ticks + 1
  (z0_16, u_12.1, u_12.2.1, u_1.2.1, z0_26, height_20, ticks_28, way_17, u_1.2.2, u_12.2.2.2.1, u_12.2.2.2.2, u_9.1, u_9.2)) : Int32 × Int64 × Int64 × Int32 × Int32 × Int32 × Int32 × Int32 × Int32 × Int32 × Int32 × Int64 × Int64)) ez0_26.symm).trans ((congrArg (fun (ticks_28 : Int32) => (((z0_16, u_12.1, u_12.2.1, u_1.2.1, z0_26, height_20, ticks_28, way_17, u_1.2.2, u_12.2.2.2.1, u_12.2.2.2.2, u_9.1, u_9.2)) : Int32 × Int64 × Int64 × Int32 × Int32 × Int32 × Int32 × Int32 × Int32 × Int32 × Int32 × Int64 × Int64)) eticks_28.symm)))))))))))))).symm
        have hz : (z0_16 : Int32) = 0 ∨ (z0_16 : Int32) = 1 := (by rw [ez0_16]; repeat (first | exact Or.inl rfl | exact Or.inr rfl | split))
        exact kk_ez hx hb hr hlocks hz hK hq [1, 0] (u_12.1, u_12.2.1, u_1.2.1, z0_26, height_20, ticks_28, way_17, u_1.2.2, u_12.2.2.2.1, u_12.2.2.2.2, u_9.1, u_9.2) rfl (by decide) dX0_step_114 ⟨congrArg Prod.fst hf, congrArg Prod.snd hf, hz⟩
      · skip
        refine lv_if_eq (tgt := 93) hx hb dX0_step_86 (by decide) (fun c_25 => ?_) (fun c_25 => ?_)
        · skip
          refine lv_aload_n hx hb dX0_step_93 rfl (lv_at hl 2 rfl) ?_
          refine kk_get (ci := 0) (v := .int C_since) (C := RX0) (T := TX0) (N := 12) hx hb hts iX0 hown hK hq 1 rfl rfl 3 (by decide) lk3_ rfl dX0_step_94 ?_
          refine lv_iconst (v := 1) hx hb dX0_step_97 (by decide) ?_
          refine lv_iadd hx hb dX0_step_98 ?_
          exact J_27 (C_since + 1) _ _ _ ⟨(if_pos c_25).symm, lv_sub hl [0, 1, 2, 3, 4, 5] rfl, hq⟩
        · skip
          refine lv_iconst (v := 0) hx hb dX0_step_89 (by decide) ?_
          refine lv_goto (tgt := 99) hx hb dX0_step_90 (by decide) ?_
          exact J_27 0 _ _ _ ⟨(if_neg c_25).symm, lv_sub hl [0, 1, 2, 3, 4, 5] rfl, hq⟩
    · skip
      refine lv_if_eq (tgt := 79) hx hb dX0_step_68 (by decide) (fun c_19 => ?_) (fun c_19 => ?_)
      · skip
        exact J_21 C_height _ _ _ ⟨(if_pos c_19).symm, lv_sub hl [0, 1, 2, 3, 4, 5] rfl, hq⟩
      · skip
        refine lv_aload_n hx hb dX0_step_71 rfl (lv_at hl 2 rfl) ?_
        refine lv_aload_n hx hb dX0_step_72 rfl (lv_at hl 2 rfl) ?_
        refine kk_Vi (As := []) (rest := [.ref aC]) (wr := [(aN, .inl (cN, 8, .inl fN))]) ⟨hx, hb, hml, hown, hts⟩ (c_X0_distance l G aC u_12.1 u_12.2.1 u_1.2.1 C_since C_height C_ticks way_17 u_1.2.2 u_12.2.2.2.1 u_12.2.2.2.2 u_9.1 u_9.2) (kk_cwV 0 hts hsb wd_379 wd_380 wd_381 wd_30 wd_382 rfl rfl hd_X0_distance ⟨Nat.le_of_ble_eq_true rfl, Nat.le_of_ble_eq_true rfl⟩) hA hK hq [1] [0] [] rfl rfl rfl (by decide) (by decide) (by decide) 0 0 rfl rfl rfl rfl hl.1 rfl (Nat.le_of_ble_eq_true rfl) dX0_step_73 ⟨Nat.zero_le _, Nat.zero_le _⟩ (fun r_30 u_29 H locs h_31 hq => ?_)
        obtain rfl := h_31
        have hq : kAt G A s [(aN, .inl (cN, 8, .inl fN)), (aC, .inr (0, [.long u_12.1, .long u_12.2.1, .int u_1.2.1, .int C_since, .int C_height, .int C_ticks, .int way_17, .int u_1.2.2, .int u_12.2.2.2.1, .int u_12.2.2.2.2, .long u_9.1, .long u_9.2]))] H locs := hq
        refine kk_put (ws' := [(aN, .inl (cN, 8, .inl fN)), (aC, .inr (0, [.long u_12.1, .long u_12.2.1, .int u_1.2.1, .int C_since, .int (fX0_distance u_12.1), .int C_ticks, .int way_17, .int u_1.2.2, .int u_12.2.2.2.1, .int u_12.2.2.2.2, .long u_9.1, .long u_9.2]))]) (ci := 0) (v := .int (fX0_distance u_12.1)) (C := RX0) (T := TX0) (N := 12) hx hb hts iX0 tyX0_ok nmX0 hown hK hq 1 rfl rfl 4 (by decide) lk2_ rfl rfl rfl (Nat.le_of_ble_eq_true rfl) dX0_step_76 rfl (fun H locs hq => ?_)
        exact J_21 (fX0_distance u_12.1) _ _ _ ⟨(if_neg c_19).symm, lv_sub hl [0, 1, 2, 3, 4, 5] rfl, hq⟩
  · skip
    refine lv_if_ne (tgt := 59) hx hb dX0_step_49 (by decide) (fun c_15 => ?_) (fun c_15 => ?_)
    · skip
      refine lv_iconst (v := 1) hx hb dX0_step_59 (by decide) ?_
      refine lv_goto (tgt := 64) hx hb dX0_step_60 (by decide) ?_
      exact J_18 1 u_12.2.2.1 _ _ _ ⟨(if_neg c_15).symm, (if_neg c_15).symm, lv_sub hl [0, 1, 2, 3, 4] rfl, hq⟩
    · skip
      refine lv_aload_n hx hb dX0_step_52 rfl (lv_at hl 1 rfl) ?_
      refine kk_Vi (As := []) (rest := []) (wr := [(aN, .inl (cN, 8, .inl fN))]) ⟨hx, hb, hml, hown, hts⟩ (c_X0_turnedBack l G aC u_12.1 u_12.2.1 u_1.2.1 C_since C_height C_ticks u_12.2.2.1 u_1.2.2 u_12.2.2.2.1 u_12.2.2.2.2 u_9.1 u_9.2) (kk_cwV 0 hts hsb wd_516 wd_517 wd_518 wd_30 wd_519 rfl rfl hd_X0_turnedBack ⟨Nat.le_of_ble_eq_true rfl, Nat.le_of_ble_eq_true rfl⟩) hA hK hq [1] [0] [] rfl rfl rfl (by decide) (by decide) (by decide) 0 0 rfl rfl rfl rfl hl.1 rfl (Nat.le_of_ble_eq_true rfl) dX0_step_53 ⟨Nat.zero_le _, Nat.zero_le _⟩ (fun r_33 u_32 H locs h_34 hq => ?_)
      obtain ⟨rfl, rfl, _⟩ := h_34
      have hq : kAt G A s [(aN, .inl (cN, 8, .inl fN)), (aC, .inr (0, [.long u_12.1, .long u_12.2.1, .int u_1.2.1, .int C_since, .int C_height, .int C_ticks, .int ((fX0_turnedBack u_12.2.1 u_12.2.2.1).2), .int u_1.2.2, .int u_12.2.2.2.1, .int u_12.2.2.2.2, .long u_9.1, .long u_9.2]))] H locs := hq
      refine lv_if_eq (tgt := 63) hx hb dX0_step_56 (by decide) (fun c_35 => ?_) (fun c_35 => ?_)
      · skip
        refine lv_iconst (v := 0) hx hb dX0_step_63 (by decide) ?_
        exact J_18 0 ((fX0_turnedBack u_12.2.1 u_12.2.2.1).2) _ _ _ ⟨((if_pos c_15).trans (if_pos c_35)).symm, (if_pos c_15).symm, lv_sub hl [0, 1, 2, 3, 4] rfl, hq⟩
      · skip
        refine lv_iconst (v := 1) hx hb dX0_step_59 (by decide) ?_
        refine lv_goto (tgt := 64) hx hb dX0_step_60 (by decide) ?_
        exact J_18 1 ((fX0_turnedBack u_12.2.1 u_12.2.2.1).2) _ _ _ ⟨((if_pos c_15).trans (if_neg c_35)).symm, (if_pos c_15).symm, lv_sub hl [0, 1, 2, 3, 4] rfl, hq⟩
def fX0_valueTold (p1 : Int32) (C_place : Int64) (C_speed : Int64) (C_posture : Int32) (C_since : Int32) (C_height : Int32) (C_ticks : Int32) (C_strength : Int32) (C_drops : Int32) (C_greatestDrop : Int32) (C_otherPlace : Int64) (C_otherSpeed : Int64) : Int32 :=
  if p1 = 0 then (
    C_place.toInt32)
  else (
    if p1 = 1 then (
      C_speed.toInt32)
    else (
      if p1 = 2 then (
        C_posture)
      else (
        if p1 = 3 then (
          C_since)
        else (
          if p1 = 4 then (
            C_height)
          else (
            if p1 = 5 then (
              C_ticks)
            else (
              if p1 = 6 then (
                0)
              else (
                if p1 = 7 then (
                  C_strength)
                else (
                  if p1 = 8 then (
                    C_drops)
                  else (
                    if p1 = 9 then (
                      C_greatestDrop)
                    else (
                      if p1 = 10 then (
                        C_otherPlace.toInt32)
                      else (
                        if p1 = 11 then (
                          C_otherSpeed.toInt32)
                        else (
                          0))))))))))))

set_option maxHeartbeats 4000000 in
set_option maxRecDepth 100000 in
theorem c_X0_valueTold (l : Launch) (G : va_G) (aC : Nat) (p1 : Int32) (C_place : Int64) (C_speed : Int64) (C_posture : Int32) (C_since : Int32) (C_height : Int32) (C_ticks : Int32) (C_way : Int32) (C_strength : Int32) (C_drops : Int32) (C_greatestDrop : Int32) (C_otherPlace : Int64) (C_otherSpeed : Int64) : kCi l yX0_valueTold (Cond.code yX0_valueTold cX0_valueTold 2 (some .int) :: wsL_law) ({ frames := 0, cells := 0, slots := 0, locals := 0 }) G [] [.ref aC, .int p1] [(aC, .inr (0, [.long C_place, .long C_speed, .int C_posture, .int C_since, .int C_height, .int C_ticks, .int C_way, .int C_strength, .int C_drops, .int C_greatestDrop, .long C_otherPlace, .long C_otherSpeed]))] (fun (r : Int32) (_ : Unit) => r = fX0_valueTold p1 C_place C_speed C_posture C_since C_height C_ticks C_strength C_drops C_greatestDrop C_otherPlace C_otherSpeed) (fun (_ : Unit) => [(aC, .inr (0, [.long C_place, .long C_speed, .int C_posture, .int C_since, .int C_height, .int C_ticks, .int C_way, .int C_strength, .int C_drops, .int C_greatestDrop, .long C_otherPlace, .long C_otherSpeed]))]) := by
  intro sz
  refine Met.ofW (cc := cX0_valueTold) (maxL := 2) (ret := (some .int)) (by decide) rfl ?_
  intro p e s m args below meth c s₁ B hml hv
  obtain ⟨rfl, hv⟩ := hv
  obtain ⟨rfl, hK, hq, hA⟩ := kk_begin hv
  have hx := B.exec
  have hb := B.bytes
  have hr := B.returns
  have hts := atoms_spec (ws := (Cond.code yX0_valueTold cX0_valueTold 2 (some .int) :: wsL_law)) B.pre
  have hown : s.vm.findClass RX0 = some m.cls := findClass_of_methodNamed B.named
  have hlocks := B.notSynchronized
  have hsb : ∀ w ∈ wsL_law, w ∈ (Cond.code yX0_valueTold cX0_valueTold 2 (some .int) :: wsL_law) := fun _ h => List.mem_cons_of_mem _ h
  generalize va_A [(aC, .inr (0, [.long C_place, .long C_speed, .int C_posture, .int C_since, .int C_height, .int C_ticks, .int C_way, .int C_strength, .int C_drops, .int C_greatestDrop, .long C_otherPlace, .long C_otherSpeed]))] s.heap.size = A at hq hA ⊢
  have iX0 : ∀ w ∈ u_ws RX0 TX0 12, w ∈ (Cond.code yX0_valueTold cX0_valueTold 2 (some .int) :: wsL_law) := fun w h => hsb w (bin_X0 w h)
  have lk0_ := hts _ (hsb _ wd_78)
  have lk1_ := hts _ (hsb _ wd_79)
  have lk2_ := hts _ (hsb _ wd_80)
  have lk3_ := hts _ (hsb _ wd_81)
  have lk4_ := hts _ (hsb _ wd_82)
  have lk5_ := hts _ (hsb _ wd_83)
  have lk6_ := hts _ (hsb _ wd_85)
  have lk7_ := hts _ (hsb _ wd_86)
  have lk8_ := hts _ (hsb _ wd_87)
  have lk9_ := hts _ (hsb _ wd_88)
  have lk10_ := hts _ (hsb _ wd_89)
  have hl := lv_entry ([.ref aC, .int p1]) (n := 2) (Nat.le_of_ble_eq_true rfl)
  rw [lg_entry_eq]
  generalize (lg_sl ([.ref aC, .int p1]) ++ List.replicate (2 - (lg_sl ([.ref aC, .int p1])).length) Slot.unset).toArray = ls at hl ⊢
  have hl : lv_has ls 2 [(0, .ref aC), (1, .int p1)] := hl
  refine lv_iload_n hx hb dX0_valueTold_0 rfl (lv_at hl 1 rfl) ?_
  refine kk_case (c := p1 = 0) (fun c_1 => ?_) (fun c_1 => ?_)
  · skip
    refine lv_tableIn (tgt := 64) hx hb dX0_valueTold_1 (by rw [c_1]; decide) (by rw [c_1]; decide) (by rw [c_1]; try rfl) (by decide) ?_
    refine lv_aload_n hx hb dX0_valueTold_64 rfl (lv_at hl 0 rfl) ?_
    refine kk_get (ci := 0) (v := .long C_place) (C := RX0) (T := TX0) (N := 12) hx hb hts iX0 hown hK hq 0 rfl rfl 0 (by decide) lk0_ rfl dX0_valueTold_65 ?_
    refine lv_l2i hx hb dX0_valueTold_68 rfl ?_
    have hf : (C_place.toInt32 : Int32) = fX0_valueTold p1 C_place C_speed C_posture C_since C_height C_ticks C_strength C_drops C_greatestDrop C_otherPlace C_otherSpeed := by
      exact ((if_pos c_1)).symm
    exact kk_ei hx hb hr hlocks hK hq [0] () rfl (by decide) dX0_valueTold_69 hf
  · skip
    refine kk_case (c := p1 = 1) (fun c_2 => ?_) (fun c_2 => ?_)
    · skip
      refine lv_tableIn (tgt := 70) hx hb dX0_valueTold_1 (by rw [c_2]; decide) (by rw [c_2]; decide) (by rw [c_2]; try rfl) (by decide) ?_
      refine lv_aload_n hx hb dX0_valueTold_70 rfl (lv_at hl 0 rfl) ?_
      refine kk_get (ci := 0) (v := .long C_speed) (C := RX0) (T := TX0) (N := 12) hx hb hts iX0 hown hK hq 0 rfl rfl 1 (by decide) lk1_ rfl dX0_valueTold_71 ?_
      refine lv_l2i hx hb dX0_valueTold_74 rfl ?_
      have hf : (C_speed.toInt32 : Int32) = fX0_valueTold p1 C_place C_speed C_posture C_since C_height C_ticks C_strength C_drops C_greatestDrop C_otherPlace C_otherSpeed := by
        exact ((if_neg c_1).trans ((if_pos c_2))).symm
      exact kk_ei hx hb hr hlocks hK hq [0] () rfl (by decide) dX0_valueTold_75 hf
    · skip
      refine kk_case (c := p1 = 2) (fun c_3 => ?_) (fun c_3 => ?_)
      · skip
        refine lv_tableIn (tgt := 76) hx hb dX0_valueTold_1 (by rw [c_3]; decide) (by rw [c_3]; decide) (by rw [c_3]; try rfl) (by decide) ?_
        refine lv_aload_n hx hb dX0_valueTold_76 rfl (lv_at hl 0 rfl) ?_
        refine kk_get (ci := 0) (v := .int C_posture) (C := RX0) (T := TX0) (N := 12) hx hb hts iX0 hown hK hq 0 rfl rfl 2 (by decide) lk2_ rfl dX0_valueTold_77 ?_
        have hf : (C_posture : Int32) = fX0_valueTold p1 C_place C_speed C_posture C_since C_height C_ticks C_strength C_drops C_greatestDrop C_otherPlace C_otherSpeed := by
          exact ((if_neg c_1).trans ((if_neg c_2).trans ((if_pos c_3)))).symm
        exact kk_ei hx hb hr hlocks hK hq [0] () rfl (by decide) dX0_valueTold_80 hf
      · skip
        refine kk_case (c := p1 = 3) (fun c_4 => ?_) (fun c_4 => ?_)
        · skip
          refine lv_tableIn (tgt := 81) hx hb dX0_valueTold_1 (by rw [c_4]; decide) (by rw [c_4]; decide) (by rw [c_4]; try rfl) (by decide) ?_
          refine lv_aload_n hx hb dX0_valueTold_81 rfl (lv_at hl 0 rfl) ?_
          refine kk_get (ci := 0) (v := .int C_since) (C := RX0) (T := TX0) (N := 12) hx hb hts iX0 hown hK hq 0 rfl rfl 3 (by decide) lk3_ rfl dX0_valueTold_82 ?_
          have hf : (C_since : Int32) = fX0_valueTold p1 C_place C_speed C_posture C_since C_height C_ticks C_strength C_drops C_greatestDrop C_otherPlace C_otherSpeed := by
            exact ((if_neg c_1).trans ((if_neg c_2).trans ((if_neg c_3).trans ((if_pos c_4))))).symm
          exact kk_ei hx hb hr hlocks hK hq [0] () rfl (by decide) dX0_valueTold_85 hf
        · skip
          refine kk_case (c := p1 = 4) (fun c_5 => ?_) (fun c_5 => ?_)
          · skip
            refine lv_tableIn (tgt := 86) hx hb dX0_valueTold_1 (by rw [c_5]; decide) (by rw [c_5]; decide) (by rw [c_5]; try rfl) (by decide) ?_
            refine lv_aload_n hx hb dX0_valueTold_86 rfl (lv_at hl 0 rfl) ?_
            refine kk_get (ci := 0) (v := .int C_height) (C := RX0) (T := TX0) (N := 12) hx hb hts iX0 hown hK hq 0 rfl rfl 4 (by decide) lk4_ rfl dX0_valueTold_87 ?_
            have hf : (C_height : Int32) = fX0_valueTold p1 C_place C_speed C_posture C_since C_height C_ticks C_strength C_drops C_greatestDrop C_otherPlace C_otherSpeed := by
              exact ((if_neg c_1).trans ((if_neg c_2).trans ((if_neg c_3).trans ((if_neg c_4).trans ((if_pos c_5)))))).symm
            exact kk_ei hx hb hr hlocks hK hq [0] () rfl (by decide) dX0_valueTold_90 hf
          · skip
            refine kk_case (c := p1 = 5) (fun c_6 => ?_) (fun c_6 => ?_)
            · skip
              refine lv_tableIn (tgt := 91) hx hb dX0_valueTold_1 (by rw [c_6]; decide) (by rw [c_6]; decide) (by rw [c_6]; try rfl) (by decide) ?_
              refine lv_aload_n hx hb dX0_valueTold_91 rfl (lv_at hl 0 rfl) ?_
              refine kk_get (ci := 0) (v := .int C_ticks) (C := RX0) (T := TX0) (N := 12) hx hb hts iX0 hown hK hq 0 rfl rfl 5 (by decide) lk5_ rfl dX0_valueTold_92 ?_
              have hf : (C_ticks : Int32) = fX0_valueTold p1 C_place C_speed C_posture C_since C_height C_ticks C_strength C_drops C_greatestDrop C_otherPlace C_otherSpeed := by
                exact ((if_neg c_1).trans ((if_neg c_2).trans ((if_neg c_3).trans ((if_neg c_4).trans ((if_neg c_5).trans ((if_pos c_6))))))).symm
              exact kk_ei hx hb hr hlocks hK hq [0] () rfl (by decide) dX0_valueTold_95 hf
            · skip
              refine kk_case (c := p1 = 6) (fun c_7 => ?_) (fun c_7 => ?_)
              · skip
                refine lv_tableIn (tgt := 123) hx hb dX0_valueTold_1 (by rw [c_7]; decide) (by rw [c_7]; decide) (by rw [c_7]; try rfl) (by decide) ?_
                refine lv_iconst (v := 0) hx hb dX0_valueTold_123 (by decide) ?_
                have hf : (0 : Int32) = fX0_valueTold p1 C_place C_speed C_posture C_since C_height C_ticks C_strength C_drops C_greatestDrop C_otherPlace C_otherSpeed := by
                  exact ((if_neg c_1).trans ((if_neg c_2).trans ((if_neg c_3).trans ((if_neg c_4).trans ((if_neg c_5).trans ((if_neg c_6).trans ((if_pos c_7)))))))).symm
                exact kk_ei hx hb hr hlocks hK hq [0] () rfl (by decide) dX0_valueTold_124 hf
              · skip
                refine kk_case (c := p1 = 7) (fun c_8 => ?_) (fun c_8 => ?_)
                · skip
                  refine lv_tableIn (tgt := 96) hx hb dX0_valueTold_1 (by rw [c_8]; decide) (by rw [c_8]; decide) (by rw [c_8]; try rfl) (by decide) ?_
                  refine lv_aload_n hx hb dX0_valueTold_96 rfl (lv_at hl 0 rfl) ?_
                  refine kk_get (ci := 0) (v := .int C_strength) (C := RX0) (T := TX0) (N := 12) hx hb hts iX0 hown hK hq 0 rfl rfl 7 (by decide) lk6_ rfl dX0_valueTold_97 ?_
                  have hf : (C_strength : Int32) = fX0_valueTold p1 C_place C_speed C_posture C_since C_height C_ticks C_strength C_drops C_greatestDrop C_otherPlace C_otherSpeed := by
                    exact ((if_neg c_1).trans ((if_neg c_2).trans ((if_neg c_3).trans ((if_neg c_4).trans ((if_neg c_5).trans ((if_neg c_6).trans ((if_neg c_7).trans ((if_pos c_8))))))))).symm
                  exact kk_ei hx hb hr hlocks hK hq [0] () rfl (by decide) dX0_valueTold_100 hf
                · skip
                  refine kk_case (c := p1 = 8) (fun c_9 => ?_) (fun c_9 => ?_)
                  · skip
                    refine lv_tableIn (tgt := 101) hx hb dX0_valueTold_1 (by rw [c_9]; decide) (by rw [c_9]; decide) (by rw [c_9]; try rfl) (by decide) ?_
                    refine lv_aload_n hx hb dX0_valueTold_101 rfl (lv_at hl 0 rfl) ?_
                    refine kk_get (ci := 0) (v := .int C_drops) (C := RX0) (T := TX0) (N := 12) hx hb hts iX0 hown hK hq 0 rfl rfl 8 (by decide) lk7_ rfl dX0_valueTold_102 ?_
                    have hf : (C_drops : Int32) = fX0_valueTold p1 C_place C_speed C_posture C_since C_height C_ticks C_strength C_drops C_greatestDrop C_otherPlace C_otherSpeed := by
                      exact ((if_neg c_1).trans ((if_neg c_2).trans ((if_neg c_3).trans ((if_neg c_4).trans ((if_neg c_5).trans ((if_neg c_6).trans ((if_neg c_7).trans ((if_neg c_8).trans ((if_pos c_9)))))))))).symm
                    exact kk_ei hx hb hr hlocks hK hq [0] () rfl (by decide) dX0_valueTold_105 hf
                  · skip
                    refine kk_case (c := p1 = 9) (fun c_10 => ?_) (fun c_10 => ?_)
                    · skip
                      refine lv_tableIn (tgt := 106) hx hb dX0_valueTold_1 (by rw [c_10]; decide) (by rw [c_10]; decide) (by rw [c_10]; try rfl) (by decide) ?_
                      refine lv_aload_n hx hb dX0_valueTold_106 rfl (lv_at hl 0 rfl) ?_
                      refine kk_get (ci := 0) (v := .int C_greatestDrop) (C := RX0) (T := TX0) (N := 12) hx hb hts iX0 hown hK hq 0 rfl rfl 9 (by decide) lk8_ rfl dX0_valueTold_107 ?_
                      have hf : (C_greatestDrop : Int32) = fX0_valueTold p1 C_place C_speed C_posture C_since C_height C_ticks C_strength C_drops C_greatestDrop C_otherPlace C_otherSpeed := by
                        exact ((if_neg c_1).trans ((if_neg c_2).trans ((if_neg c_3).trans ((if_neg c_4).trans ((if_neg c_5).trans ((if_neg c_6).trans ((if_neg c_7).trans ((if_neg c_8).trans ((if_neg c_9).trans ((if_pos c_10))))))))))).symm
                      exact kk_ei hx hb hr hlocks hK hq [0] () rfl (by decide) dX0_valueTold_110 hf
                    · skip
                      refine kk_case (c := p1 = 10) (fun c_11 => ?_) (fun c_11 => ?_)
                      · skip
                        refine lv_tableIn (tgt := 111) hx hb dX0_valueTold_1 (by rw [c_11]; decide) (by rw [c_11]; decide) (by rw [c_11]; try rfl) (by decide) ?_
                        refine lv_aload_n hx hb dX0_valueTold_111 rfl (lv_at hl 0 rfl) ?_
                        refine kk_get (ci := 0) (v := .long C_otherPlace) (C := RX0) (T := TX0) (N := 12) hx hb hts iX0 hown hK hq 0 rfl rfl 10 (by decide) lk9_ rfl dX0_valueTold_112 ?_
                        refine lv_l2i hx hb dX0_valueTold_115 rfl ?_
                        have hf : (C_otherPlace.toInt32 : Int32) = fX0_valueTold p1 C_place C_speed C_posture C_since C_height C_ticks C_strength C_drops C_greatestDrop C_otherPlace C_otherSpeed := by
                          exact ((if_neg c_1).trans ((if_neg c_2).trans ((if_neg c_3).trans ((if_neg c_4).trans ((if_neg c_5).trans ((if_neg c_6).trans ((if_neg c_7).trans ((if_neg c_8).trans ((if_neg c_9).trans ((if_neg c_10).trans ((if_pos c_11)))))))))))).symm
                        exact kk_ei hx hb hr hlocks hK hq [0] () rfl (by decide) dX0_valueTold_116 hf
                      · skip
                        refine kk_case (c := p1 = 11) (fun c_12 => ?_) (fun c_12 => ?_)
                        · skip
                          refine lv_tableIn (tgt := 117) hx hb dX0_valueTold_1 (by rw [c_12]; decide) (by rw [c_12]; decide) (by rw [c_12]; try rfl) (by decide) ?_
                          refine lv_aload_n hx hb dX0_valueTold_117 rfl (lv_at hl 0 rfl) ?_
                          refine kk_get (ci := 0) (v := .long C_otherSpeed) (C := RX0) (T := TX0) (N := 12) hx hb hts iX0 hown hK hq 0 rfl rfl 11 (by decide) lk10_ rfl dX0_valueTold_118 ?_
                          refine lv_l2i hx hb dX0_valueTold_121 rfl ?_
                          have hf : (C_otherSpeed.toInt32 : Int32) = fX0_valueTold p1 C_place C_speed C_posture C_since C_height C_ticks C_strength C_drops C_greatestDrop C_otherPlace C_otherSpeed := by
                            exact ((if_neg c_1).trans ((if_neg c_2).trans ((if_neg c_3).trans ((if_neg c_4).trans ((if_neg c_5).trans ((if_neg c_6).trans ((if_neg c_7).trans ((if_neg c_8).trans ((if_neg c_9).trans ((if_neg c_10).trans ((if_neg c_11).trans ((if_pos c_12))))))))))))).symm
                          exact kk_ei hx hb hr hlocks hK hq [0] () rfl (by decide) dX0_valueTold_122 hf
                        · skip
                          refine lv_tableOut (tgt := 123) hx hb dX0_valueTold_1 (by have := kk_ne (k := 0) c_1 (by decide); have := kk_ne (k := 1) c_2 (by decide); have := kk_ne (k := 2) c_3 (by decide); have := kk_ne (k := 3) c_4 (by decide); have := kk_ne (k := 4) c_5 (by decide); have := kk_ne (k := 5) c_6 (by decide); have := kk_ne (k := 6) c_7 (by decide); have := kk_ne (k := 7) c_8 (by decide); have := kk_ne (k := 8) c_9 (by decide); have := kk_ne (k := 9) c_10 (by decide); have := kk_ne (k := 10) c_11 (by decide); have := kk_ne (k := 11) c_12 (by decide); omega) (by decide) ?_
                          refine lv_iconst (v := 0) hx hb dX0_valueTold_123 (by decide) ?_
                          have hf : (0 : Int32) = fX0_valueTold p1 C_place C_speed C_posture C_since C_height C_ticks C_strength C_drops C_greatestDrop C_otherPlace C_otherSpeed := by
                            exact ((if_neg c_1).trans ((if_neg c_2).trans ((if_neg c_3).trans ((if_neg c_4).trans ((if_neg c_5).trans ((if_neg c_6).trans ((if_neg c_7).trans ((if_neg c_8).trans ((if_neg c_9).trans ((if_neg c_10).trans ((if_neg c_11).trans ((if_neg c_12))))))))))))).symm
                          exact kk_ei hx hb hr hlocks hK hq [0] () rfl (by decide) dX0_valueTold_124 hf
