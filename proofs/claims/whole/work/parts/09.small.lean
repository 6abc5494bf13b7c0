def lpX0_fall_3 (p1 : Int64) (p2 : Int64) : Nat → Int64 → Int64
  | 0, _ => 0
  | N + 1, f =>
    if f < 1000 then (
    if (p2 * f) * f < 2 * p1 then (
    let x4_3 : Int64 := f + 1
    lpX0_fall_3 p1 p2 N x4_3)
    else (
    f))
    else (
    f)

def fX0_fall (p1 : Int64) (p2 : Int64) : Int64 :=
  let z_6 : Int64 := lpX0_fall_3 p1 p2 (1001) 0
  z_6

set_option maxHeartbeats 4000000 in
set_option maxRecDepth 100000 in
theorem c_X0_fall (l : Launch) (G : va_G) (p1 : Int64) (p2 : Int64) : kCl l yX0_fall (Cond.code yX0_fall cX0_fall 6 (some .long) :: wsL_law) ({ frames := 0, cells := 0, slots := 0, locals := 0 }) G [] [.long p1, .long p2] [] (fun (r : Int64) (_ : Unit) => r = fX0_fall p1 p2) (fun (_ : Unit) => []) := by
  intro sz
  refine Met.ofW (cc := cX0_fall) (maxL := 6) (ret := (some .long)) (by decide) rfl ?_
  intro p e s m args below meth c s₁ B hml hv
  obtain ⟨rfl, hv⟩ := hv
  obtain ⟨rfl, hK, hq, hA⟩ := kk_begin hv
  have hx := B.exec
  have hb := B.bytes
  have hr := B.returns
  have hts := atoms_spec (ws := (Cond.code yX0_fall cX0_fall 6 (some .long) :: wsL_law)) B.pre
  have hown : s.vm.findClass RX0 = some m.cls := findClass_of_methodNamed B.named
  have hlocks := B.notSynchronized
  have hsb : ∀ w ∈ wsL_law, w ∈ (Cond.code yX0_fall cX0_fall 6 (some .long) :: wsL_law) := fun _ h => List.mem_cons_of_mem _ h
  generalize va_A [] s.heap.size = A at hq hA ⊢
  have lk0_ := hts _ (hsb _ wd_504)
  have lk1_ := hts _ (hsb _ wd_730)
  have hl := lv_entry ([.long p1, .long p2]) (n := 6) (Nat.le_of_ble_eq_true rfl)
  rw [lg_entry_eq]
  generalize (lg_sl ([.long p1, .long p2]) ++ List.replicate (6 - (lg_sl ([.long p1, .long p2])).length) Slot.unset).toArray = ls at hl ⊢
  have hl : lv_has ls 6 [(0, .long p1), (2, .long p2)] := hl
  refine lv_lconst (v := 0) hx hb dX0_fall_0 (by decide) ?_
  refine lv_lstore (lv' := [(4, .long 0), (0, .long p1), (2, .long p2)]) hx hb dX0_fall_1 hl (by decide) rfl (fun ls hl => ?_)
  refine kk_loop1 (fun N (f : Int64) (H : Heap) (locs : List Loc) (ls : Array Slot) => lpX0_fall_3 p1 p2 (1001) 0 = lpX0_fall_3 p1 p2 N f ∧ (0 ≤ f.toInt) ∧ (f.toInt ≤ 1000) ∧ (f.toInt + N = 1001) ∧ lv_has ls 6 [(4, .long f), (0, .long p1), (2, .long p2)] ∧ kAt G A s [] H locs) 3 (fun f => []) (fun f H locs ls hv => ?_) (fun N f H locs ls ih hv => ?_) (1001) 0 _ _ _ ⟨rfl, (by decide), (by decide), (by decide), lv_sub hl [0, 1, 2] rfl, hq⟩
  · skip
    obtain ⟨hrel, h0, h1, hN, hl, hq⟩ := hv
    omega
  · skip
    obtain ⟨hrel, h0, h1, hN, hl, hq⟩ := hv
    refine lv_lload hx hb dX0_fall_3 (lv_at hl 0 rfl) ?_
    refine lv_ldc2 hx hb hown lk0_ dX0_fall_5 ?_
    refine kk_lc_ge (tgt := 37) hx hb dX0_fall_8 dX0_fall_9 (by decide) (fun c_1 => ?_) (fun c_1 => ?_)
    · skip
      have hx_2 : (f : Int64) = lpX0_fall_3 p1 p2 (1001) 0 := (hrel.trans ((if_neg c_1))).symm
      obtain ⟨z_3, gz_3⟩ : ∃ z : Int64, z = f := ⟨_, rfl⟩
      have ez_3 : z_3 = lpX0_fall_3 p1 p2 (1001) 0 := gz_3.trans hx_2
      have hl : lv_has ls 6 [(4, .long z_3), (0, .long p1), (2, .long p2)] := by subst gz_3; exact hl
      have hq : kAt G A s [] H locs := by subst gz_3; exact hq
      refine lv_lload hx hb dX0_fall_37 (lv_at hl 0 rfl) ?_
      have hf : (z_3 : Int64) = fX0_fall p1 p2 := by
        exact ((congrArg (fun (z_3 : Int64) => ((z_3) : Int64)) ez_3.symm)).symm
      exact kk_el hx hb hr hlocks hK hq [] () rfl (by decide) dX0_fall_39 hf
    · skip
      have hf := jl_ltk (k := 1000) rfl c_1
      refine lv_lload_n hx hb dX0_fall_12 rfl (lv_at hl 2 rfl) ?_
      refine lv_lload hx hb dX0_fall_13 (lv_at hl 0 rfl) ?_
      refine lv_lmul hx hb dX0_fall_15 ?_
      refine lv_lload hx hb dX0_fall_16 (lv_at hl 0 rfl) ?_
      refine lv_lmul hx hb dX0_fall_18 ?_
      refine lv_ldc2 hx hb hown lk1_ dX0_fall_19 ?_
      refine lv_lload_n hx hb dX0_fall_22 rfl (lv_at hl 1 rfl) ?_
      refine lv_lmul hx hb dX0_fall_23 ?_
      refine kk_lc_ge (tgt := 37) hx hb dX0_fall_24 dX0_fall_25 (by decide) (fun c_4 => ?_) (fun c_4 => ?_)
      · skip
        have hx_5 : (f : Int64) = lpX0_fall_3 p1 p2 (1001) 0 := (hrel.trans ((if_pos c_1).trans ((if_neg c_4)))).symm
        obtain ⟨z_6, gz_6⟩ : ∃ z : Int64, z = f := ⟨_, rfl⟩
        have ez_6 : z_6 = lpX0_fall_3 p1 p2 (1001) 0 := gz_6.trans hx_5
        have hl : lv_has ls 6 [(4, .long z_6), (0, .long p1), (2, .long p2)] := by subst gz_6; exact hl
        have hq : kAt G A s [] H locs := by subst gz_6; exact hq
        refine lv_lload hx hb dX0_fall_37 (lv_at hl 0 rfl) ?_
        have hf : (z_6 : Int64) = fX0_fall p1 p2 := by
          exact ((congrArg (fun (z_6 : Int64) => ((z_6) : Int64)) ez_6.symm)).symm
        exact kk_el hx hb hr hlocks hK hq [] () rfl (by decide) dX0_fall_39 hf
      · skip
        refine lv_lload hx hb dX0_fall_28 (lv_at hl 0 rfl) ?_
        refine lv_lconst (v := 1) hx hb dX0_fall_30 (by decide) ?_
        refine lv_ladd hx hb dX0_fall_31 ?_
        refine lv_topl (fun x4_7 ex4_7 => ?_)
        refine lv_lstore (lv' := [(4, .long x4_7), (0, .long p1), (2, .long p2)]) hx hb dX0_fall_32 hl (by decide) rfl (fun ls hl => ?_)
        refine lv_goto (tgt := 3) hx hb dX0_fall_34 (by decide) ?_
        exact ih x4_7 _ _ _ ⟨(hrel.trans ((if_pos c_1).trans ((if_pos c_4).trans ((congrArg (fun (x4_7 : Int64) => ((lpX0_fall_3 p1 p2 N x4_7) : Int64)) ex4_7.symm))))), (by subst ex4_7; have := jl_inc (x := f) (by omega); omega), (by subst ex4_7; have := jl_inc (x := f) (by omega); omega), (by subst ex4_7; have := jl_inc (x := f) (by omega); omega), lv_sub hl [0, 1, 2] rfl, hq⟩
theorem hd_X0_fall : yX0_fall.cls ≠ "java/lang/invoke/MethodHandle" ∧ yX0_fall.cls ≠ "java/lang/invoke/VarHandle" ∧ (parseMethodDescriptor yX0_fall.desc).map (fun d => d.parameters.length) = some 2 := by decide +kernel
def fX0_landing (C_place : Int64) (C_speed : Int64) (C_posture : Int32) (fN : Nat → Int32) : Int32 :=
  let r_2 : Int64 := fX0_length C_posture fN
  let x4_4 : Int64 := C_place / 1000
  let x6_5 : Int64 := 50 + (((r_2 * x4_4) * x4_4) / 2000000)
  let r_7 : Int64 := fX0_fall x6_5 ((fN 1).toInt64)
  (((C_place + (C_speed * r_7)) * r_2) / 1000).toInt32

set_option maxHeartbeats 4000000 in
set_option maxRecDepth 100000 in
theorem c_X0_landing (l : Launch) (G : va_G) (aC aN : Nat) (cN : ClassId) (C_place : Int64) (C_speed : Int64) (C_posture : Int32) (C_since : Int32) (C_height : Int32) (C_ticks : Int32) (C_way : Int32) (C_strength : Int32) (C_drops : Int32) (C_greatestDrop : Int32) (C_otherPlace : Int64) (C_otherSpeed : Int64) (fN : Nat → Int32) : kCi l yX0_landing (Cond.code yX0_landing cX0_landing 8 (some .int) :: wsL_law) ({ frames := 1, cells := 0, slots := 0, locals := 25 }) G [(cN, .int)] [.ref aC, .ref aN] [(aC, .inr (0, [.long C_place, .long C_speed, .int C_posture, .int C_since, .int C_height, .int C_ticks, .int C_way, .int C_strength, .int C_drops, .int C_greatestDrop, .long C_otherPlace, .long C_otherSpeed])), (aN, .inl (cN, 8, .inl fN))] (fun (r : Int32) (_ : Unit) => r = fX0_landing C_place C_speed C_posture fN) (fun (_ : Unit) => [(aC, .inr (0, [.long C_place, .long C_speed, .int C_posture, .int C_since, .int C_height, .int C_ticks, .int C_way, .int C_strength, .int C_drops, .int C_greatestDrop, .long C_otherPlace, .long C_otherSpeed])), (aN, .inl (cN, 8, .inl fN))]) := by
  intro sz
  refine Met.ofW (cc := cX0_landing) (maxL := 8) (ret := (some .int)) (by decide) rfl ?_
  intro p e s m args below meth c s₁ B hml hv
  obtain ⟨rfl, hv⟩ := hv
  obtain ⟨rfl, hK, hq, hA⟩ := kk_begin hv
  have hx := B.exec
  have hb := B.bytes
  have hr := B.returns
  have hts := atoms_spec (ws := (Cond.code yX0_landing cX0_landing 8 (some .int) :: wsL_law)) B.pre
  have hown : s.vm.findClass RX0 = some m.cls := findClass_of_methodNamed B.named
  have hlocks := B.notSynchronized
  have hsb : ∀ w ∈ wsL_law, w ∈ (Cond.code yX0_landing cX0_landing 8 (some .int) :: wsL_law) := fun _ h => List.mem_cons_of_mem _ h
  generalize va_A [(aC, .inr (0, [.long C_place, .long C_speed, .int C_posture, .int C_since, .int C_height, .int C_ticks, .int C_way, .int C_strength, .int C_drops, .int C_greatestDrop, .long C_otherPlace, .long C_otherSpeed])), (aN, .inl (cN, 8, .inl fN))] s.heap.size = A at hq hA ⊢
  have iX0 : ∀ w ∈ u_ws RX0 TX0 12, w ∈ (Cond.code yX0_landing cX0_landing 8 (some .int) :: wsL_law) := fun w h => hsb w (bin_X0 w h)
  have lk0_ := hts _ (hsb _ wd_78)
  have lk1_ := hts _ (hsb _ wd_504)
  have lk2_ := hts _ (hsb _ wd_725)
  have lk3_ := hts _ (hsb _ wd_726)
  have lk4_ := hts _ (hsb _ wd_79)
  have hl := lv_entry ([.ref aC, .ref aN]) (n := 8) (Nat.le_of_ble_eq_true rfl)
  rw [lg_entry_eq]
  generalize (lg_sl ([.ref aC, .ref aN]) ++ List.replicate (8 - (lg_sl ([.ref aC, .ref aN])).length) Slot.unset).toArray = ls at hl ⊢
  have hl : lv_has ls 8 [(0, .ref aC), (1, .ref aN)] := hl
  refine lv_aload_n hx hb dX0_landing_0 rfl (lv_at hl 0 rfl) ?_
  refine lv_aload_n hx hb dX0_landing_1 rfl (lv_at hl 1 rfl) ?_
  refine kk_Vl (As := [.ref aN]) (rest := []) (wr := []) ⟨hx, hb, hml, hown, hts⟩ (c_X0_length l G aC aN cN C_place C_speed C_posture C_since C_height C_ticks C_way C_strength C_drops C_greatestDrop C_otherPlace C_otherSpeed fN) (kk_cwV 1 hts hsb wd_485 wd_486 wd_487 wd_30 wd_488 rfl rfl hd_X0_length ⟨Nat.le_of_ble_eq_true rfl, Nat.le_of_ble_eq_true rfl⟩) hA hK hq [0, 1] [] [0] rfl rfl rfl (by decide) (by decide) (by decide) 0 0 rfl rfl rfl rfl hl.1 rfl (Nat.le_of_ble_eq_true rfl) dX0_landing_2 ⟨Nat.zero_le _, Nat.zero_le _⟩ (fun r_2 u_1 H locs h_3 hq => ?_)
  have er_2 := h_3
  have hq : kAt G A s [(aC, .inr (0, [.long C_place, .long C_speed, .int C_posture, .int C_since, .int C_height, .int C_ticks, .int C_way, .int C_strength, .int C_drops, .int C_greatestDrop, .long C_otherPlace, .long C_otherSpeed])), (aN, .inl (cN, 8, .inl fN))] H locs := hq
  refine lv_lstore_n (lv' := [(2, .long r_2), (0, .ref aC), (1, .ref aN)]) hx hb dX0_landing_5 rfl hl (by decide) rfl (fun ls hl => ?_)
  refine lv_aload_n hx hb dX0_landing_6 rfl (lv_at hl 1 rfl) ?_
  refine kk_get (ci := 0) (v := .long C_place) (C := RX0) (T := TX0) (N := 12) hx hb hts iX0 hown hK hq 0 rfl rfl 0 (by decide) lk0_ rfl dX0_landing_7 ?_
  refine lv_ldc2 hx hb hown lk1_ dX0_landing_10 ?_
  refine lv_ldiv hx hb dX0_landing_13 (by decide) ?_
  refine lv_topl (fun x4_4 ex4_4 => ?_)
  refine lv_lstore (lv' := [(4, .long x4_4), (2, .long r_2), (0, .ref aC), (1, .ref aN)]) hx hb dX0_landing_14 hl (by decide) rfl (fun ls hl => ?_)
  refine lv_ldc2 hx hb hown lk2_ dX0_landing_16 ?_
  refine lv_lload_n hx hb dX0_landing_19 rfl (lv_at hl 1 rfl) ?_
  refine lv_lload hx hb dX0_landing_20 (lv_at hl 0 rfl) ?_
  refine lv_lmul hx hb dX0_landing_22 ?_
  refine lv_lload hx hb dX0_landing_23 (lv_at hl 0 rfl) ?_
  refine lv_lmul hx hb dX0_landing_25 ?_
  refine lv_ldc2 hx hb hown lk3_ dX0_landing_26 ?_
  refine lv_ldiv hx hb dX0_landing_29 (by decide) ?_
  refine lv_ladd hx hb dX0_landing_30 ?_
  refine lv_topl (fun x6_5 ex6_5 => ?_)
  refine lv_lstore (lv' := [(6, .long x6_5), (4, .long x4_4), (2, .long r_2), (0, .ref aC), (1, .ref aN)]) hx hb dX0_landing_31 hl (by decide) rfl (fun ls hl => ?_)
  refine lv_aload_n hx hb dX0_landing_33 rfl (lv_at hl 3 rfl) ?_
  refine kk_get (ci := 0) (v := .long C_place) (C := RX0) (T := TX0) (N := 12) hx hb hts iX0 hown hK hq 0 rfl rfl 0 (by decide) lk0_ rfl dX0_landing_34 ?_
  refine lv_aload_n hx hb dX0_landing_37 rfl (lv_at hl 3 rfl) ?_
  refine kk_get (ci := 0) (v := .long C_speed) (C := RX0) (T := TX0) (N := 12) hx hb hts iX0 hown hK hq 0 rfl rfl 1 (by decide) lk4_ rfl dX0_landing_38 ?_
  refine lv_lload hx hb dX0_landing_41 (lv_at hl 0 rfl) ?_
  refine lv_aload_n hx hb dX0_landing_43 rfl (lv_at hl 4 rfl) ?_
  refine lv_iconst (v := 1) hx hb dX0_landing_44 (by decide) ?_
  refine kk_iald hx hb hK hq 1 0 rfl rfl 1 rfl (by decide) (by decide) dX0_landing_45 ?_
  refine lv_i2l hx hb dX0_landing_46 rfl ?_
  refine kk_Sl (As := [.long x6_5, .long ((fN 1).toInt64)]) (rest := [.long C_speed, .long C_place]) (wr := [(aC, .inr (0, [.long C_place, .long C_speed, .int C_posture, .int C_since, .int C_height, .int C_ticks, .int C_way, .int C_strength, .int C_drops, .int C_greatestDrop, .long C_otherPlace, .long C_otherSpeed])), (aN, .inl (cN, 8, .inl fN))]) ⟨hx, hb, hml, hown, hts⟩ (c_X0_fall l G x6_5 ((fN 1).toInt64)) (kk_cwS 2 hts hsb wd_727 wd_728 wd_30 wd_729 rfl rfl hd_X0_fall ⟨Nat.le_of_ble_eq_true rfl, Nat.le_of_ble_eq_true rfl⟩) hA hK hq [] [0, 1] [] rfl rfl rfl (by decide) (by decide) (by decide) rfl hl.1 rfl (Nat.le_of_ble_eq_true rfl) dX0_landing_47 ⟨Nat.zero_le _, Nat.zero_le _⟩ (fun r_7 u_6 H locs h_8 hq => ?_)
  have er_7 := h_8
  have hq : kAt G A s [(aC, .inr (0, [.long C_place, .long C_speed, .int C_posture, .int C_since, .int C_height, .int C_ticks, .int C_way, .int C_strength, .int C_drops, .int C_greatestDrop, .long C_otherPlace, .long C_otherSpeed])), (aN, .inl (cN, 8, .inl fN))] H locs := hq
  refine lv_lmul hx hb dX0_landing_50 ?_
  refine lv_ladd hx hb dX0_landing_51 ?_
  refine lv_lload_n hx hb dX0_landing_52 rfl (lv_at hl 2 rfl) ?_
  refine lv_lmul hx hb dX0_landing_53 ?_
  refine lv_ldc2 hx hb hown lk1_ dX0_landing_54 ?_
  refine lv_ldiv hx hb dX0_landing_57 (by decide) ?_
  refine lv_l2i hx hb dX0_landing_58 rfl ?_
  have hf : ((((C_place + (C_speed * r_7)) * r_2) / 1000).toInt32 : Int32) = fX0_landing C_place C_speed C_posture fN := by
    exact ((congrArg (fun (r_2 : Int64) => ((let x4_4 : Int64 := C_place / 1000
  let x6_5 : Int64 := 50 + (((r_2 * x4_4) * x4_4) / 2000000)
  let r_7 : Int64 := fX0_fall x6_5 ((fN 1).toInt64)
  (((C_place + (C_speed * r_7)) * r_2) / 1000).toInt32) : Int32)) er_2.symm).trans ((congrArg (fun (x4_4 : Int64) => ((let x6_5 : Int64 := 50 + (((r_2 * x4_4) * x4_4) / 2000000)
  let r_7 : Int64 := fX0_fall x6_5 ((fN 1).toInt64)
  (((C_place + (C_speed * r_7)) * r_2) / 1000).toInt32) : Int32)) ex4_4.symm).trans ((congrArg (fun (x6_5 : Int64) => ((let r_7 : Int64 := fX0_fall x6_5 ((fN 1).toInt64)
  (((C_place + (C_speed * r_7)) * r_2) / 1000).toInt32) : Int32)) ex6_5.symm).trans ((congrArg (fun (r_7 : Int64) => (((((C_place + (C_speed * r_7)) * r_2) / 1000).toInt32) : Int32)) er_7.symm))))).symm
  exact kk_ei hx hb hr hlocks hK hq [0, 1] () rfl (by decide) dX0_landing_59 hf
theorem kk_ofW {l : Launch} {y : MethodName} {ws ws' : List Cond} {rm : Room} {Pc : Array Value → State → Prop} {Qc : Array Value → State → Outcome → State → Prop} {mc ms : Nat} {free : Addr → Prop} {cc : ByteArray} {maxL : Nat} {ret : Option FieldType}
    (hy : plainFor y = true) (hw : ws = Cond.code y cc maxL ret :: ws')
    (body : ∀ p e s m args below meth c s₁, BodyLoose p l y (headSpec ws rm) cc maxL ret e s m args below meth c s₁ → c.maxLocals = maxL → Pc args s →
      W p l e (headSpec ws rm).room s m args below meth c s.heap [] 0 0 (MQ below Qc args s mc ms free) (entryFrame m args maxL)) : Met l y ws rm Pc Qc mc ms free := by
  refine MetFree.of_bodyRF (code := cc) (maxLocals := maxL) (ret := ret) hy ?_ ?_
  · intro args s m h hn
    obtain ⟨meth, c, h1, h2, h3, h4, h5, h6, -, -⟩ := Cond.code_spec hn (atoms_spec (ws := ws) h _ (by rw [hw]; exact List.mem_cons_self))
    exact ⟨meth, c, h1, h2, h3, h4, h5, h6⟩
  · intro p e s m args below meth c s₁ B hml hP _ hst
    have hh0 : s₁.heap = s.heap := by rw [B.state]; rfl
    obtain ⟨t, a1, o, b1, b2, b3⟩ := body p e s m args below meth c s₁ B hml hP s₁ hh0 (Stand.of_body B)
    exact ⟨t, o, hst.trans a1, b1, b2, ⟨b3.1, b3.2⟩⟩
theorem hd_J9_floorMod : yJ9_floorMod_7cf53.cls ≠ "java/lang/invoke/MethodHandle" ∧ yJ9_floorMod_7cf53.cls ≠ "java/lang/invoke/VarHandle" ∧ (parseMethodDescriptor yJ9_floorMod_7cf53.desc).map (fun d => d.parameters.length) = some 2 := by decide +kernel
def fJ9_floorMod_7cf53 (p1 : Int32) (p2 : Int32) : Int32 :=
  let x2_1 : Int32 := p1 - p1 / p2 * p2
  if 0 ≤ p1 ^^^ p2 then (
    x2_1)
  else (
    if x2_1 = 0 then (
      x2_1)
    else (
      x2_1 + p2))

set_option maxHeartbeats 4000000 in
set_option maxRecDepth 100000 in
theorem c_floorMod (l : Launch) (G : va_G) (p1 : Int32) (p2 : Int32) (hne : ¬ p2 = 0) : kCi l yJ9_floorMod_7cf53 (Cond.code yJ9_floorMod_7cf53 cJ9_floorMod_7cf53 3 (some .int) :: wsL_law) ({ frames := 0, cells := 0, slots := 0, locals := 0 }) G [] [.int p1, .int p2] [] (fun (r : Int32) (_ : Unit) => r = fJ9_floorMod_7cf53 p1 p2) (fun (_ : Unit) => []) := by
  intro sz
  refine kk_ofW (cc := cJ9_floorMod_7cf53) (maxL := 3) (ret := (some .int)) (by decide +kernel) rfl ?_
  intro p e s m args below meth c s₁ B hml hv
  obtain ⟨rfl, hv⟩ := hv
  obtain ⟨rfl, hK, hq, hA⟩ := kk_begin hv
  have hx := B.exec
  have hb := B.bytes
  have hr := B.returns
  have hts := atoms_spec (ws := (Cond.code yJ9_floorMod_7cf53 cJ9_floorMod_7cf53 3 (some .int) :: wsL_law)) B.pre
  have hown : s.vm.findClass RJ9 = some m.cls := findClass_of_methodNamed B.named
  have hlocks := B.notSynchronized
  have hsb : ∀ w ∈ wsL_law, w ∈ (Cond.code yJ9_floorMod_7cf53 cJ9_floorMod_7cf53 3 (some .int) :: wsL_law) := fun _ h => List.mem_cons_of_mem _ h
  generalize va_A [] s.heap.size = A at hq hA ⊢
  have hl := lv_entry ([.int p1, .int p2]) (n := 3) (Nat.le_of_ble_eq_true rfl)
  rw [lg_entry_eq]
  generalize (lg_sl ([.int p1, .int p2]) ++ List.replicate (3 - (lg_sl ([.int p1, .int p2])).length) Slot.unset).toArray = ls at hl ⊢
  have hl : lv_has ls 3 [(0, .int p1), (1, .int p2)] := hl
  refine lv_iload_n hx hb dJ9_floorMod_7cf53_0 rfl (lv_at hl 0 rfl) ?_
  refine lv_iload_n hx hb dJ9_floorMod_7cf53_1 rfl (lv_at hl 1 rfl) ?_
  refine lv_irem hx hb dJ9_floorMod_7cf53_2 hne ?_
  refine lv_topi (fun x2_1 ex2_1 => ?_)
  refine lv_istore_n (lv' := [(2, .int x2_1), (0, .int p1), (1, .int p2)]) hx hb dJ9_floorMod_7cf53_3 rfl hl (by decide) rfl (fun ls hl => ?_)
  refine lv_iload_n hx hb dJ9_floorMod_7cf53_4 rfl (lv_at hl 1 rfl) ?_
  refine lv_iload_n hx hb dJ9_floorMod_7cf53_5 rfl (lv_at hl 2 rfl) ?_
  refine lv_ixor hx hb dJ9_floorMod_7cf53_6 ?_
  refine lv_if_ge (tgt := 18) hx hb dJ9_floorMod_7cf53_7 (by decide) (fun c_2 => ?_) (fun c_2 => ?_)
  · skip
    refine lv_iload_n hx hb dJ9_floorMod_7cf53_18 rfl (lv_at hl 0 rfl) ?_
    have hf : (x2_1 : Int32) = fJ9_floorMod_7cf53 p1 p2 := by
      exact ((congrArg (fun (x2_1 : Int32) => ((if 0 ≤ p1 ^^^ p2 then (
    x2_1)
  else (
    if x2_1 = 0 then (
      x2_1)
    else (
      x2_1 + p2))) : Int32)) ex2_1.symm).trans ((if_pos c_2))).symm
    exact kk_ei hx hb hr hlocks hK hq [] () rfl (by decide) dJ9_floorMod_7cf53_19 hf
  · skip
    refine lv_iload_n hx hb dJ9_floorMod_7cf53_10 rfl (lv_at hl 0 rfl) ?_
    refine lv_if_eq (tgt := 18) hx hb dJ9_floorMod_7cf53_11 (by decide) (fun c_3 => ?_) (fun c_3 => ?_)
    · skip
      refine lv_iload_n hx hb dJ9_floorMod_7cf53_18 rfl (lv_at hl 0 rfl) ?_
      have hf : (x2_1 : Int32) = fJ9_floorMod_7cf53 p1 p2 := by
        exact ((congrArg (fun (x2_1 : Int32) => ((if 0 ≤ p1 ^^^ p2 then (
    x2_1)
  else (
    if x2_1 = 0 then (
      x2_1)
    else (
      x2_1 + p2))) : Int32)) ex2_1.symm).trans ((if_neg c_2).trans ((if_pos c_3)))).symm
      exact kk_ei hx hb hr hlocks hK hq [] () rfl (by decide) dJ9_floorMod_7cf53_19 hf
    · skip
      refine lv_iload_n hx hb dJ9_floorMod_7cf53_14 rfl (lv_at hl 0 rfl) ?_
      refine lv_iload_n hx hb dJ9_floorMod_7cf53_15 rfl (lv_at hl 2 rfl) ?_
      refine lv_iadd hx hb dJ9_floorMod_7cf53_16 ?_
      have hf : (x2_1 + p2 : Int32) = fJ9_floorMod_7cf53 p1 p2 := by
        exact ((congrArg (fun (x2_1 : Int32) => ((if 0 ≤ p1 ^^^ p2 then (
    x2_1)
  else (
    if x2_1 = 0 then (
      x2_1)
    else (
      x2_1 + p2))) : Int32)) ex2_1.symm).trans ((if_neg c_2).trans ((if_neg c_3)))).symm
      exact kk_ei hx hb hr hlocks hK hq [] () rfl (by decide) dJ9_floorMod_7cf53_17 hf
theorem fm_40 {x : Int32} (h : 0 ≤ x.toInt) : fJ9_floorMod_7cf53 x 40 = nI (x.toNatClampNeg % 40) := by
  have hx := kk_cl h
  have h1 := il_hi x
  have h2 := kk_clN h
  have hr : x - x / 40 * 40 = nI (x.toNatClampNeg % 40) := by
    have := pk_rem (a := x.toNatClampNeg) (d := 40) (by omega) (by decide) (by decide)
    rw [← hx] at this
    exact this
  have hlt : x.toNatClampNeg % 40 < 40 := Nat.mod_lt _ (by decide)
  have hxor : 0 ≤ x ^^^ 40 := by
    rw [Int32.le_iff_toBitVec_sle]
    have hm : x.toBitVec.msb = false := by
      rw [BitVec.msb_eq_false_iff_two_mul_lt]
      have e1 : x.toBitVec.toInt = x.toInt := rfl
      have e2 := BitVec.toInt_eq_toNat_cond x.toBitVec
      rw [e1] at e2
      split at e2
      · omega
      · have := x.toBitVec.isLt; omega
    have h3 : (x ^^^ 40).toBitVec.msb = false := by
      rw [Int32.toBitVec_xor, BitVec.msb_xor, hm]; rfl
    rw [BitVec.sle_iff_toInt_le]
    have : (0 : Int32).toBitVec.toInt = 0 := rfl
    rw [this, BitVec.toInt_eq_msb_cond, h3]
    simp
  unfold fJ9_floorMod_7cf53
  simp only [hr, if_pos hxor]
def fX6_add (p1 : Int32) (T_count : Int32) (fH : Nat → Int32) : Int32 × (Nat → Int32) :=
  let fH_4 : Nat → Int32 := upd fH (T_count.toNatClampNeg % 40) p1
  let count_5 : Int32 := T_count + 1
  (count_5, fH_4)

set_option maxHeartbeats 4000000 in
set_option maxRecDepth 100000 in
theorem c_X6_add (l : Launch) (G : va_G) (aT aH : Nat) (cH : ClassId) (p1 : Int32) (T_count : Int32) (fH : Nat → Int32) (hc : 0 ≤ T_count.toInt) : kCv l yX6_add (Cond.code yX6_add cX6_add 2 none :: wsL_law) ({ frames := 1, cells := 0, slots := 0, locals := 22 }) G [(cH, .int)] [.ref aT, .int p1] [(aT, .inr (6, [.ref aH, .int T_count])), (aH, .inl (cH, 40, .inl fH))] (fun (u : Int32 × (Nat → Int32)) => u = fX6_add p1 T_count fH) (fun (u : Int32 × (Nat → Int32)) => [(aT, .inr (6, [.ref aH, .int u.1])), (aH, .inl (cH, 40, .inl u.2))]) := by
  intro sz
  refine Met.ofW (cc := cX6_add) (maxL := 2) (ret := none) (by decide) rfl ?_
  intro p e s m args below meth c s₁ B hml hv
  obtain ⟨rfl, hv⟩ := hv
  obtain ⟨rfl, hK, hq, hA⟩ := kk_begin hv
  have hx := B.exec
  have hb := B.bytes
  have hr := B.returns
  have hts := atoms_spec (ws := (Cond.code yX6_add cX6_add 2 none :: wsL_law)) B.pre
  have hown : s.vm.findClass RX6 = some m.cls := findClass_of_methodNamed B.named
  have hlocks := B.notSynchronized
  have hsb : ∀ w ∈ wsL_law, w ∈ (Cond.code yX6_add cX6_add 2 none :: wsL_law) := fun _ h => List.mem_cons_of_mem _ h
  generalize va_A [(aT, .inr (6, [.ref aH, .int T_count])), (aH, .inl (cH, 40, .inl fH))] s.heap.size = A at hq hA ⊢
  have iX6 : ∀ w ∈ u_ws RX6 TX6 2, w ∈ (Cond.code yX6_add cX6_add 2 none :: wsL_law) := fun w h => hsb w (bin_X6 w h)
  have lk0_ := hts _ (hsb _ wd_93)
  have lk1_ := hts _ (hsb _ wd_94)
  have hl := lv_entry ([.ref aT, .int p1]) (n := 2) (Nat.le_of_ble_eq_true rfl)
  rw [lg_entry_eq]
  generalize (lg_sl ([.ref aT, .int p1]) ++ List.replicate (2 - (lg_sl ([.ref aT, .int p1])).length) Slot.unset).toArray = ls at hl ⊢
  have hl : lv_has ls 2 [(0, .ref aT), (1, .int p1)] := hl
  refine lv_aload_n hx hb dX6_add_0 rfl (lv_at hl 0 rfl) ?_
  refine kk_get (ci := 6) (v := .ref aH) (C := RX6) (T := TX6) (N := 2) hx hb hts iX6 hown hK hq 0 rfl rfl 0 (by decide) lk0_ rfl dX6_add_1 ?_
  refine lv_aload_n hx hb dX6_add_4 rfl (lv_at hl 0 rfl) ?_
  refine kk_get (ci := 6) (v := .int T_count) (C := RX6) (T := TX6) (N := 2) hx hb hts iX6 hown hK hq 0 rfl rfl 1 (by decide) lk1_ rfl dX6_add_5 ?_
  refine lv_bipush (v := 40) hx hb dX6_add_8 (by decide) ?_
  refine kk_Si (As := [.int T_count, .int 40]) (rest := [.ref aH]) (wr := [(aT, .inr (6, [.ref aH, .int T_count])), (aH, .inl (cH, 40, .inl fH))]) ⟨hx, hb, hml, hown, hts⟩ (c_floorMod l G T_count 40 (by decide)) (kk_cwS 2 hts hsb wd_528 wd_529 wd_530 wd_531 rfl rfl hd_J9_floorMod ⟨Nat.le_of_ble_eq_true rfl, Nat.le_of_ble_eq_true rfl⟩) hA hK hq [] [0, 1] [] rfl rfl rfl (by decide) (by decide) (by decide) rfl hl.1 rfl (Nat.le_of_ble_eq_true rfl) dX6_add_10 ⟨Nat.zero_le _, Nat.zero_le _⟩ (fun r_2 u_1 H locs h_3 hq => ?_)
  obtain rfl := h_3
  have hq : kAt G A s [(aT, .inr (6, [.ref aH, .int T_count])), (aH, .inl (cH, 40, .inl fH))] H locs := hq
  refine lv_iload_n hx hb dX6_add_13 rfl (lv_at hl 1 rfl) ?_
  refine kk_iast (ws' := [(aT, .inr (6, [.ref aH, .int T_count])), (aH, .inl (cH, 40, .inl (upd fH (T_count.toNatClampNeg % 40) p1)))]) hx hb hK hq 1 0 rfl rfl (T_count.toNatClampNeg % 40) (fm_40 hc) (Nat.mod_lt _ (by decide)) (by decide) dX6_add_14 rfl (fun H locs hq => ?_)
  obtain ⟨fH_4, efH_4⟩ : ∃ z : Nat → Int32, z = upd fH (T_count.toNatClampNeg % 40) p1 := ⟨_, rfl⟩
  rw [← efH_4] at hq
  refine lv_aload_n hx hb dX6_add_15 rfl (lv_at hl 0 rfl) ?_
  refine lv_dup hx hb dX6_add_16 rfl ?_
  refine kk_get (ci := 6) (v := .int T_count) (C := RX6) (T := TX6) (N := 2) hx hb hts iX6 hown hK hq 0 rfl rfl 1 (by decide) lk1_ rfl dX6_add_17 ?_
  refine lv_iconst (v := 1) hx hb dX6_add_20 (by decide) ?_
  refine lv_iadd hx hb dX6_add_21 ?_
  refine lv_topi (fun count_5 ecount_5 => ?_)
  refine kk_put (ws' := [(aT, .inr (6, [.ref aH, .int count_5])), (aH, .inl (cH, 40, .inl fH_4))]) (ci := 6) (v := .int count_5) (C := RX6) (T := TX6) (N := 2) hx hb hts iX6 tyX6_ok nmX6 hown hK hq 0 rfl rfl 1 (by decide) lk1_ rfl rfl rfl (Nat.le_of_ble_eq_true rfl) dX6_add_22 rfl (fun H locs hq => ?_)
  have hf : ((count_5, fH_4) : Int32 × (Nat → Int32)) = fX6_add p1 T_count fH := by
    exact ((congrArg (fun (fH_4 : Nat → Int32) => ((let count_5 : Int32 := T_count + 1
  (count_5, fH_4)) : Int32 × (Nat → Int32))) efH_4.symm).trans ((congrArg (fun (count_5 : Int32) => (((count_5, fH_4)) : Int32 × (Nat → Int32))) ecount_5.symm))).symm
  exact kk_ev hx hb hr hlocks hK hq [0, 1] (count_5, fH_4) rfl (by decide) dX6_add_25 hf
def fX6_beforeLast (p1 : Int32) (T_count : Int32) (fH : Nat → Int32) : Int32 :=
  if p1 < 0 then (
    (-1))
  else (
    if 40 ≤ p1 then (
      (-1))
    else (
      if p1 < T_count then (
        fH ((T_count - 1 - p1).toNatClampNeg % 40))
      else (
        (-1))))

set_option maxHeartbeats 4000000 in
set_option maxRecDepth 100000 in
theorem c_X6_beforeLast (l : Launch) (G : va_G) (aT aH : Nat) (cH : ClassId) (p1 : Int32) (T_count : Int32) (fH : Nat → Int32) (hc : 0 ≤ T_count.toInt) : kCi l yX6_beforeLast (Cond.code yX6_beforeLast cX6_beforeLast 2 (some .int) :: wsL_law) ({ frames := 1, cells := 0, slots := 0, locals := 22 }) G [(cH, .int)] [.ref aT, .int p1] [(aT, .inr (6, [.ref aH, .int T_count])), (aH, .inl (cH, 40, .inl fH))] (fun (r : Int32) (_ : Unit) => r = fX6_beforeLast p1 T_count fH) (fun (_ : Unit) => [(aT, .inr (6, [.ref aH, .int T_count])), (aH, .inl (cH, 40, .inl fH))]) := by
  intro sz
  refine Met.ofW (cc := cX6_beforeLast) (maxL := 2) (ret := (some .int)) (by decide) rfl ?_
  intro p e s m args below meth c s₁ B hml hv
  obtain ⟨rfl, hv⟩ := hv
  obtain ⟨rfl, hK, hq, hA⟩ := kk_begin hv
  have hx := B.exec
  have hb := B.bytes
  have hr := B.returns
  have hts := atoms_spec (ws := (Cond.code yX6_beforeLast cX6_beforeLast 2 (some .int) :: wsL_law)) B.pre
  have hown : s.vm.findClass RX6 = some m.cls := findClass_of_methodNamed B.named
  have hlocks := B.notSynchronized
  have hsb : ∀ w ∈ wsL_law, w ∈ (Cond.code yX6_beforeLast cX6_beforeLast 2 (some .int) :: wsL_law) := fun _ h => List.mem_cons_of_mem _ h
  generalize va_A [(aT, .inr (6, [.ref aH, .int T_count])), (aH, .inl (cH, 40, .inl fH))] s.heap.size = A at hq hA ⊢
  have iX6 : ∀ w ∈ u_ws RX6 TX6 2, w ∈ (Cond.code yX6_beforeLast cX6_beforeLast 2 (some .int) :: wsL_law) := fun w h => hsb w (bin_X6 w h)
  have lk0_ := hts _ (hsb _ wd_94)
  have lk1_ := hts _ (hsb _ wd_93)
  have hl := lv_entry ([.ref aT, .int p1]) (n := 2) (Nat.le_of_ble_eq_true rfl)
  rw [lg_entry_eq]
  generalize (lg_sl ([.ref aT, .int p1]) ++ List.replicate (2 - (lg_sl ([.ref aT, .int p1])).length) Slot.unset).toArray = ls at hl ⊢
  have hl : lv_has ls 2 [(0, .ref aT), (1, .int p1)] := hl
  refine lv_iload_n hx hb dX6_beforeLast_0 rfl (lv_at hl 1 rfl) ?_
  refine lv_if_lt (tgt := 18) hx hb dX6_beforeLast_1 (by decide) (fun c_1 => ?_) (fun c_1 => ?_)
  · skip
    refine lv_iconst (v := -1) hx hb dX6_beforeLast_18 (by decide) ?_
    have hf : ((-1) : Int32) = fX6_beforeLast p1 T_count fH := by
      exact ((if_pos c_1)).symm
    exact kk_ei hx hb hr hlocks hK hq [0, 1] () rfl (by decide) dX6_beforeLast_19 hf
  · skip
    have hp0 := kk_nlt (k := 0) rfl c_1
    refine lv_iload_n hx hb dX6_beforeLast_4 rfl (lv_at hl 1 rfl) ?_
    refine lv_bipush (v := 40) hx hb dX6_beforeLast_5 (by decide) ?_
    refine lv_icmp_ge (tgt := 18) hx hb dX6_beforeLast_7 (by decide) (fun c_2 => ?_) (fun c_2 => ?_)
    · skip
      refine lv_iconst (v := -1) hx hb dX6_beforeLast_18 (by decide) ?_
      have hf : ((-1) : Int32) = fX6_beforeLast p1 T_count fH := by
        exact ((if_neg c_1).trans ((if_pos c_2))).symm
      exact kk_ei hx hb hr hlocks hK hq [0, 1] () rfl (by decide) dX6_beforeLast_19 hf
    · skip
      have hp1 := kk_nle (k := 40) rfl c_2
      refine lv_iload_n hx hb dX6_beforeLast_10 rfl (lv_at hl 1 rfl) ?_
      refine lv_aload_n hx hb dX6_beforeLast_11 rfl (lv_at hl 0 rfl) ?_
      refine kk_get (ci := 6) (v := .int T_count) (C := RX6) (T := TX6) (N := 2) hx hb hts iX6 hown hK hq 0 rfl rfl 1 (by decide) lk0_ rfl dX6_beforeLast_12 ?_
      refine lv_icmp_lt (tgt := 20) hx hb dX6_beforeLast_15 (by decide) (fun c_3 => ?_) (fun c_3 => ?_)
      · skip
        have hp2 := (il_lt _ _).mp c_3
        have hi : 0 ≤ (T_count - 1 - p1).toInt := by have h1 := il_hi T_count; have h2 := kk_dec (x := T_count) (by omega); rw [kk_subi (by omega) (by omega)]; omega
        refine lv_aload_n hx hb dX6_beforeLast_20 rfl (lv_at hl 0 rfl) ?_
        refine kk_get (ci := 6) (v := .ref aH) (C := RX6) (T := TX6) (N := 2) hx hb hts iX6 hown hK hq 0 rfl rfl 0 (by decide) lk1_ rfl dX6_beforeLast_21 ?_
        refine lv_aload_n hx hb dX6_beforeLast_24 rfl (lv_at hl 0 rfl) ?_
        refine kk_get (ci := 6) (v := .int T_count) (C := RX6) (T := TX6) (N := 2) hx hb hts iX6 hown hK hq 0 rfl rfl 1 (by decide) lk0_ rfl dX6_beforeLast_25 ?_
        refine lv_iconst (v := 1) hx hb dX6_beforeLast_28 (by decide) ?_
        refine lv_isub hx hb dX6_beforeLast_29 ?_
        refine lv_iload_n hx hb dX6_beforeLast_30 rfl (lv_at hl 1 rfl) ?_
        refine lv_isub hx hb dX6_beforeLast_31 ?_
        refine lv_bipush (v := 40) hx hb dX6_beforeLast_32 (by decide) ?_
        refine kk_Si (As := [.int ((T_count - 1) - p1), .int 40]) (rest := [.ref aH]) (wr := [(aT, .inr (6, [.ref aH, .int T_count])), (aH, .inl (cH, 40, .inl fH))]) ⟨hx, hb, hml, hown, hts⟩ (c_floorMod l G ((T_count - 1) - p1) 40 (by decide)) (kk_cwS 2 hts hsb wd_528 wd_529 wd_530 wd_531 rfl rfl hd_J9_floorMod ⟨Nat.le_of_ble_eq_true rfl, Nat.le_of_ble_eq_true rfl⟩) hA hK hq [] [0, 1] [] rfl rfl rfl (by decide) (by decide) (by decide) rfl hl.1 rfl (Nat.le_of_ble_eq_true rfl) dX6_beforeLast_34 ⟨Nat.zero_le _, Nat.zero_le _⟩ (fun r_5 u_4 H locs h_6 hq => ?_)
        obtain rfl := h_6
        have hq : kAt G A s [(aT, .inr (6, [.ref aH, .int T_count])), (aH, .inl (cH, 40, .inl fH))] H locs := hq
        refine kk_iald hx hb hK hq 1 0 rfl rfl ((T_count - 1 - p1).toNatClampNeg % 40) (fm_40 hi) (Nat.mod_lt _ (by decide)) (by decide) dX6_beforeLast_37 ?_
        have hf : (fH ((T_count - 1 - p1).toNatClampNeg % 40) : Int32) = fX6_beforeLast p1 T_count fH := by
          exact ((if_neg c_1).trans ((if_neg c_2).trans ((if_pos c_3)))).symm
        exact kk_ei hx hb hr hlocks hK hq [0, 1] () rfl (by decide) dX6_beforeLast_38 hf
      · skip
        refine lv_iconst (v := -1) hx hb dX6_beforeLast_18 (by decide) ?_
        have hf : ((-1) : Int32) = fX6_beforeLast p1 T_count fH := by
          exact ((if_neg c_1).trans ((if_neg c_2).trans ((if_neg c_3)))).symm
        exact kk_ei hx hb hr hlocks hK hq [0, 1] () rfl (by decide) dX6_beforeLast_19 hf
def fX6_clear : Int32 :=
  0

set_option maxHeartbeats 4000000 in
set_option maxRecDepth 100000 in
theorem c_X6_clear (l : Launch) (G : va_G) (aT rT_heights : Nat) (T_count : Int32) : kCv l yX6_clear (Cond.code yX6_clear cX6_clear 1 none :: wsL_law) ({ frames := 0, cells := 0, slots := 0, locals := 0 }) G [] [.ref aT] [(aT, .inr (6, [.ref rT_heights, .int T_count]))] (fun (u : Int32) => u = fX6_clear) (fun (u : Int32) => [(aT, .inr (6, [.ref rT_heights, .int u]))]) := by
  intro sz
  refine Met.ofW (cc := cX6_clear) (maxL := 1) (ret := none) (by decide) rfl ?_
  intro p e s m args below meth c s₁ B hml hv
  obtain ⟨rfl, hv⟩ := hv
  obtain ⟨rfl, hK, hq, hA⟩ := kk_begin hv
  have hx := B.exec
  have hb := B.bytes
  have hr := B.returns
  have hts := atoms_spec (ws := (Cond.code yX6_clear cX6_clear 1 none :: wsL_law)) B.pre
  have hown : s.vm.findClass RX6 = some m.cls := findClass_of_methodNamed B.named
  have hlocks := B.notSynchronized
  have hsb : ∀ w ∈ wsL_law, w ∈ (Cond.code yX6_clear cX6_clear 1 none :: wsL_law) := fun _ h => List.mem_cons_of_mem _ h
  generalize va_A [(aT, .inr (6, [.ref rT_heights, .int T_count]))] s.heap.size = A at hq hA ⊢
  have iX6 : ∀ w ∈ u_ws RX6 TX6 2, w ∈ (Cond.code yX6_clear cX6_clear 1 none :: wsL_law) := fun w h => hsb w (bin_X6 w h)
  have lk0_ := hts _ (hsb _ wd_94)
  have hl := lv_entry ([.ref aT]) (n := 1) (Nat.le_of_ble_eq_true rfl)
  rw [lg_entry_eq]
  generalize (lg_sl ([.ref aT]) ++ List.replicate (1 - (lg_sl ([.ref aT])).length) Slot.unset).toArray = ls at hl ⊢
  have hl : lv_has ls 1 [(0, .ref aT)] := hl
  refine lv_aload_n hx hb dX6_clear_0 rfl (lv_at hl 0 rfl) ?_
  refine lv_iconst (v := 0) hx hb dX6_clear_1 (by decide) ?_
  refine kk_put (ws' := [(aT, .inr (6, [.ref rT_heights, .int 0]))]) (ci := 6) (v := .int 0) (C := RX6) (T := TX6) (N := 2) hx hb hts iX6 tyX6_ok nmX6 hown hK hq 0 rfl rfl 1 (by decide) lk0_ rfl rfl rfl (Nat.le_of_ble_eq_true rfl) dX6_clear_2 rfl (fun H locs hq => ?_)
  have hf : (0 : Int32) = fX6_clear := by
    exact rfl
  exact kk_ev hx hb hr hlocks hK hq [0] 0 rfl (by decide) dX6_clear_5 hf
def fX6_become (O_count : Int32) (fOH : Nat → Int32) : Int32 × (Nat → Int32) :=
  (O_count, fOH)

set_option maxHeartbeats 4000000 in
set_option maxRecDepth 100000 in
theorem c_X6_become (l : Launch) (G : va_G) (aT aH aO aOH : Nat) (cH cOH : ClassId) (T_count : Int32) (fH : Nat → Int32) (O_count : Int32) (fOH : Nat → Int32) : kCv l yX6_become (Cond.code yX6_become cX6_become 2 none :: wsL_law) ({ frames := 1, cells := 0, slots := 0, locals := 60 }) G [(cH, .int), (cOH, .int)] [.ref aT, .ref aO] [(aT, .inr (6, [.ref aH, .int T_count])), (aH, .inl (cH, 40, .inl fH)), (aO, .inr (6, [.ref aOH, .int O_count])), (aOH, .inl (cOH, 40, .inl fOH))] (fun (u : Int32 × (Nat → Int32)) => u = fX6_become O_count fOH) (fun (u : Int32 × (Nat → Int32)) => [(aT, .inr (6, [.ref aH, .int u.1])), (aH, .inl (cH, 40, .inl u.2)), (aO, .inr (6, [.ref aOH, .int O_count])), (aOH, .inl (cOH, 40, .inl fOH))]) := by
  intro sz
  refine Met.ofW (cc := cX6_become) (maxL := 2) (ret := none) (by decide) rfl ?_
  intro p e s m args below meth c s₁ B hml hv
  obtain ⟨rfl, hv⟩ := hv
  obtain ⟨rfl, hK, hq, hA⟩ := kk_begin hv
  have hx := B.exec
  have hb := B.bytes
  have hr := B.returns
  have hts := atoms_spec (ws := (Cond.code yX6_become cX6_become 2 none :: wsL_law)) B.pre
  have hown : s.vm.findClass RX6 = some m.cls := findClass_of_methodNamed B.named
  have hlocks := B.notSynchronized
  have hsb : ∀ w ∈ wsL_law, w ∈ (Cond.code yX6_become cX6_become 2 none :: wsL_law) := fun _ h => List.mem_cons_of_mem _ h
  generalize va_A [(aT, .inr (6, [.ref aH, .int T_count])), (aH, .inl (cH, 40, .inl fH)), (aO, .inr (6, [.ref aOH, .int O_count])), (aOH, .inl (cOH, 40, .inl fOH))] s.heap.size = A at hq hA ⊢
  have iX6 : ∀ w ∈ u_ws RX6 TX6 2, w ∈ (Cond.code yX6_become cX6_become 2 none :: wsL_law) := fun w h => hsb w (bin_X6 w h)
  have lk0_ := hts _ (hsb _ wd_93)
  have lk1_ := hts _ (hsb _ wd_812)
  have lk2_ := hts _ (hsb _ wd_697)
  have lk3_ := hts _ (hsb _ wd_698)
  have lk4_ := hts _ (hsb _ wd_699)
  have lk5_ := hts _ (hsb _ wd_94)
  have hl := lv_entry ([.ref aT, .ref aO]) (n := 2) (Nat.le_of_ble_eq_true rfl)
  rw [lg_entry_eq]
  generalize (lg_sl ([.ref aT, .ref aO]) ++ List.replicate (2 - (lg_sl ([.ref aT, .ref aO])).length) Slot.unset).toArray = ls at hl ⊢
  have hl : lv_has ls 2 [(0, .ref aT), (1, .ref aO)] := hl
  refine lv_aload_n hx hb dX6_become_0 rfl (lv_at hl 1 rfl) ?_
  refine kk_get (ci := 6) (v := .ref aOH) (C := RX6) (T := TX6) (N := 2) hx hb hts iX6 hown hK hq 2 rfl rfl 0 (by decide) lk0_ rfl dX6_become_1 ?_
  refine lv_iconst (v := 0) hx hb dX6_become_4 (by decide) ?_
  refine lv_aload_n hx hb dX6_become_5 rfl (lv_at hl 0 rfl) ?_
  refine kk_get (ci := 6) (v := .ref aH) (C := RX6) (T := TX6) (N := 2) hx hb hts iX6 hown hK hq 0 rfl rfl 0 (by decide) lk0_ rfl dX6_become_6 ?_
  refine lv_iconst (v := 0) hx hb dX6_become_9 (by decide) ?_
  refine lv_bipush (v := 40) hx hb dX6_become_10 (by decide) ?_
  refine kk_copyi (ws' := [(aT, .inr (6, [.ref aH, .int T_count])), (aH, .inl (cH, 40, .inl fOH)), (aO, .inr (6, [.ref aOH, .int O_count])), (aOH, .inl (cOH, 40, .inl fOH))]) (N := 40) hx hb (by rw [hml]; exact hl.1.symm) hown lk1_ lk2_ lk3_ lk4_ hK hq 3 1 1 0 rfl rfl rfl rfl (by decide) (by decide) (Nat.le_of_ble_eq_true rfl) (Nat.le_of_ble_eq_true rfl) dX6_become_12 rfl (fun H locs hq => ?_)
  refine lv_aload_n hx hb dX6_become_15 rfl (lv_at hl 0 rfl) ?_
  refine lv_aload_n hx hb dX6_become_16 rfl (lv_at hl 1 rfl) ?_
  refine kk_get (ci := 6) (v := .int O_count) (C := RX6) (T := TX6) (N := 2) hx hb hts iX6 hown hK hq 2 rfl rfl 1 (by decide) lk5_ rfl dX6_become_17 ?_
  refine kk_put (ws' := [(aT, .inr (6, [.ref aH, .int O_count])), (aH, .inl (cH, 40, .inl fOH)), (aO, .inr (6, [.ref aOH, .int O_count])), (aOH, .inl (cOH, 40, .inl fOH))]) (ci := 6) (v := .int O_count) (C := RX6) (T := TX6) (N := 2) hx hb hts iX6 tyX6_ok nmX6 hown hK hq 0 rfl rfl 1 (by decide) lk5_ rfl rfl rfl (Nat.le_of_ble_eq_true rfl) dX6_become_20 rfl (fun H locs hq => ?_)
  have hf : ((O_count, fOH) : Int32 × (Nat → Int32)) = fX6_become O_count fOH := by
    exact rfl
  exact kk_ev hx hb hr hlocks hK hq [0, 1, 2, 3] (O_count, fOH) rfl (by decide) dX6_become_23 hf
def fX5_add (p1 : Int32) (T_length : Int32) (fS : Nat → Int32) : Int32 × (Nat → Int32) :=
  let length_2 : Int32 := if 60 ≤ T_length then T_length else T_length + 1
  let gS_3 : Nat → Int32 := if 60 ≤ T_length then fS else upd fS T_length.toNatClampNeg p1
  (length_2, gS_3)

set_option maxHeartbeats 4000000 in
set_option maxRecDepth 100000 in
theorem c_X5_add (l : Launch) (G : va_G) (aT aS : Nat) (cS : ClassId) (p1 : Int32) (T_length : Int32) (fS : Nat → Int32) (h0 : 0 ≤ T_length.toInt) : kCv l yX5_add (Cond.code yX5_add cX5_add 2 none :: wsL_law) ({ frames := 0, cells := 0, slots := 0, locals := 0 }) G [(cS, .int)] [.ref aT, .int p1] [(aT, .inr (5, [.ref aS, .int T_length])), (aS, .inl (cS, 60, .inl fS))] (fun (u : Int32 × (Nat → Int32)) => u = fX5_add p1 T_length fS) (fun (u : Int32 × (Nat → Int32)) => [(aT, .inr (5, [.ref aS, .int u.1])), (aS, .inl (cS, 60, .inl u.2))]) := by
  intro sz
  refine Met.ofW (cc := cX5_add) (maxL := 2) (ret := none) (by decide) rfl ?_
  intro p e s m args below meth c s₁ B hml hv
  obtain ⟨rfl, hv⟩ := hv
  obtain ⟨rfl, hK, hq, hA⟩ := kk_begin hv
  have hx := B.exec
  have hb := B.bytes
  have hr := B.returns
  have hts := atoms_spec (ws := (Cond.code yX5_add cX5_add 2 none :: wsL_law)) B.pre
  have hown : s.vm.findClass RX5 = some m.cls := findClass_of_methodNamed B.named
  have hlocks := B.notSynchronized
  have hsb : ∀ w ∈ wsL_law, w ∈ (Cond.code yX5_add cX5_add 2 none :: wsL_law) := fun _ h => List.mem_cons_of_mem _ h
  generalize va_A [(aT, .inr (5, [.ref aS, .int T_length])), (aS, .inl (cS, 60, .inl fS))] s.heap.size = A at hq hA ⊢
  have iX5 : ∀ w ∈ u_ws RX5 TX5 2, w ∈ (Cond.code yX5_add cX5_add 2 none :: wsL_law) := fun w h => hsb w (bin_X5 w h)
  have lk0_ := hts _ (hsb _ wd_68)
  have lk1_ := hts _ (hsb _ wd_67)
  have hl := lv_entry ([.ref aT, .int p1]) (n := 2) (Nat.le_of_ble_eq_true rfl)
  rw [lg_entry_eq]
  generalize (lg_sl ([.ref aT, .int p1]) ++ List.replicate (2 - (lg_sl ([.ref aT, .int p1])).length) Slot.unset).toArray = ls at hl ⊢
  have hl : lv_has ls 2 [(0, .ref aT), (1, .int p1)] := hl
  refine lv_aload_n hx hb dX5_add_0 rfl (lv_at hl 0 rfl) ?_
  refine kk_get (ci := 5) (v := .int T_length) (C := RX5) (T := TX5) (N := 2) hx hb hts iX5 hown hK hq 0 rfl rfl 1 (by decide) lk0_ rfl dX5_add_1 ?_
  refine lv_bipush (v := 60) hx hb dX5_add_4 (by decide) ?_
  refine kk_join2 (fun (length_2 : Int32) (gS_3 : Nat → Int32) (H : Heap) (locs : List Loc) (ls : Array Slot) => length_2 = (if 60 ≤ T_length then T_length else T_length + 1) ∧ gS_3 = (if 60 ≤ T_length then fS else upd fS T_length.toNatClampNeg p1) ∧ lv_has ls 2 [(0, .ref aT), (1, .int p1)] ∧ kAt G A s [(aT, .inr (5, [.ref aS, .int length_2])), (aS, .inl (cS, 60, .inl gS_3))] H locs) 29 (fun length_2 gS_3 => []) (fun length_2 gS_3 H locs ls hv => ?_) (fun J_4 => ?_)
  · skip
    obtain ⟨elength_2, egS_3, hl, hq⟩ := hv
    have hf : ((length_2, gS_3) : Int32 × (Nat → Int32)) = fX5_add p1 T_length fS := by
      exact ((congrArg (fun (length_2 : Int32) => ((let gS_3 : Nat → Int32 := if 60 ≤ T_length then fS else upd fS T_length.toNatClampNeg p1
  (length_2, gS_3)) : Int32 × (Nat → Int32))) elength_2.symm).trans ((congrArg (fun (gS_3 : Nat → Int32) => (((length_2, gS_3)) : Int32 × (Nat → Int32))) egS_3.symm))).symm
    exact kk_ev hx hb hr hlocks hK hq [0, 1] (length_2, gS_3) rfl (by decide) dX5_add_29 hf
  · skip
    refine lv_icmp_ge (tgt := 29) hx hb dX5_add_6 (by decide) (fun c_1 => ?_) (fun c_1 => ?_)
    · skip
      exact J_4 T_length fS _ _ _ ⟨(if_pos c_1).symm, (if_pos c_1).symm, lv_sub hl [0, 1] rfl, hq⟩
    · skip
      have hl60 := kk_nle (k := 60) rfl c_1
      refine lv_aload_n hx hb dX5_add_9 rfl (lv_at hl 0 rfl) ?_
      refine kk_get (ci := 5) (v := .ref aS) (C := RX5) (T := TX5) (N := 2) hx hb hts iX5 hown hK hq 0 rfl rfl 0 (by decide) lk1_ rfl dX5_add_10 ?_
      refine lv_aload_n hx hb dX5_add_13 rfl (lv_at hl 0 rfl) ?_
      refine kk_get (ci := 5) (v := .int T_length) (C := RX5) (T := TX5) (N := 2) hx hb hts iX5 hown hK hq 0 rfl rfl 1 (by decide) lk0_ rfl dX5_add_14 ?_
      refine lv_iload_n hx hb dX5_add_17 rfl (lv_at hl 1 rfl) ?_
      refine kk_iast (ws' := [(aT, .inr (5, [.ref aS, .int T_length])), (aS, .inl (cS, 60, .inl (upd fS T_length.toNatClampNeg p1)))]) hx hb hK hq 1 0 rfl rfl T_length.toNatClampNeg (kk_cl h0) (kk_clt h0 hl60) (by decide) dX5_add_18 rfl (fun H locs hq => ?_)
      refine lv_aload_n hx hb dX5_add_19 rfl (lv_at hl 0 rfl) ?_
      refine lv_dup hx hb dX5_add_20 rfl ?_
      refine kk_get (ci := 5) (v := .int T_length) (C := RX5) (T := TX5) (N := 2) hx hb hts iX5 hown hK hq 0 rfl rfl 1 (by decide) lk0_ rfl dX5_add_21 ?_
      refine lv_iconst (v := 1) hx hb dX5_add_24 (by decide) ?_
      refine lv_iadd hx hb dX5_add_25 ?_
      refine kk_put (ws' := [(aT, .inr (5, [.ref aS, .int (T_length + 1)])), (aS, .inl (cS, 60, .inl (upd fS T_length.toNatClampNeg p1)))]) (ci := 5) (v := .int (T_length + 1)) (C := RX5) (T := TX5) (N := 2) hx hb hts iX5 tyX5_ok nmX5 hown hK hq 0 rfl rfl 1 (by decide) lk0_ rfl rfl rfl (Nat.le_of_ble_eq_true rfl) dX5_add_26 rfl (fun H locs hq => ?_)
      exact J_4 (T_length + 1) (upd fS T_length.toNatClampNeg p1) _ _ _ ⟨(if_neg c_1).symm, (if_neg c_1).symm, lv_sub hl [0, 1] rfl, hq⟩
def fX5_signAt (p1 : Int32) (T_length : Int32) (fS : Nat → Int32) : Int32 :=
  let z0_2 : Int32 := if p1 < 0 then (-1) else if T_length ≤ p1 then (-1) else fS p1.toNatClampNeg
  z0_2

set_option maxHeartbeats 4000000 in
set_option maxRecDepth 100000 in
theorem c_X5_signAt (l : Launch) (G : va_G) (aT aS : Nat) (cS : ClassId) (p1 : Int32) (T_length : Int32) (fS : Nat → Int32) (hn : T_length.toInt ≤ 60) : kCi l yX5_signAt (Cond.code yX5_signAt cX5_signAt 2 (some .int) :: wsL_law) ({ frames := 0, cells := 0, slots := 0, locals := 0 }) G [(cS, .int)] [.ref aT, .int p1] [(aT, .inr (5, [.ref aS, .int T_length])), (aS, .inl (cS, 60, .inl fS))] (fun (r : Int32) (_ : Unit) => r = fX5_signAt p1 T_length fS) (fun (_ : Unit) => [(aT, .inr (5, [.ref aS, .int T_length])), (aS, .inl (cS, 60, .inl fS))]) := by
  intro sz
  refine Met.ofW (cc := cX5_signAt) (maxL := 2) (ret := (some .int)) (by decide) rfl ?_
  intro p e s m args below meth c s₁ B hml hv
  obtain ⟨rfl, hv⟩ := hv
  obtain ⟨rfl, hK, hq, hA⟩ := kk_begin hv
  have hx := B.exec
  have hb := B.bytes
  have hr := B.returns
  have hts := atoms_spec (ws := (Cond.code yX5_signAt cX5_signAt 2 (some .int) :: wsL_law)) B.pre
  have hown : s.vm.findClass RX5 = some m.cls := findClass_of_methodNamed B.named
  have hlocks := B.notSynchronized
  have hsb : ∀ w ∈ wsL_law, w ∈ (Cond.code yX5_signAt cX5_signAt 2 (some .int) :: wsL_law) := fun _ h => List.mem_cons_of_mem _ h
  generalize va_A [(aT, .inr (5, [.ref aS, .int T_length])), (aS, .inl (cS, 60, .inl fS))] s.heap.size = A at hq hA ⊢
  have iX5 : ∀ w ∈ u_ws RX5 TX5 2, w ∈ (Cond.code yX5_signAt cX5_signAt 2 (some .int) :: wsL_law) := fun w h => hsb w (bin_X5 w h)
  have lk0_ := hts _ (hsb _ wd_68)
  have lk1_ := hts _ (hsb _ wd_67)
  have hl := lv_entry ([.ref aT, .int p1]) (n := 2) (Nat.le_of_ble_eq_true rfl)
  rw [lg_entry_eq]
  generalize (lg_sl ([.ref aT, .int p1]) ++ List.replicate (2 - (lg_sl ([.ref aT, .int p1])).length) Slot.unset).toArray = ls at hl ⊢
  have hl : lv_has ls 2 [(0, .ref aT), (1, .int p1)] := hl
  refine lv_iload_n hx hb dX5_signAt_0 rfl (lv_at hl 1 rfl) ?_
  refine kk_join1 (fun (z0_2 : Int32) (H : Heap) (locs : List Loc) (ls : Array Slot) => z0_2 = (if p1 < 0 then (-1) else if T_length ≤ p1 then (-1) else fS p1.toNatClampNeg) ∧ lv_has ls 2 [(0, .ref aT), (1, .int p1)] ∧ kAt G A s [(aT, .inr (5, [.ref aS, .int T_length])), (aS, .inl (cS, 60, .inl fS))] H locs) 22 (fun z0_2 => [.int z0_2]) (fun z0_2 H locs ls hv => ?_) (fun J_3 => ?_)
  · skip
    obtain ⟨ez0_2, hl, hq⟩ := hv
    have hf : (z0_2 : Int32) = fX5_signAt p1 T_length fS := by
      exact ((congrArg (fun (z0_2 : Int32) => ((z0_2) : Int32)) ez0_2.symm)).symm
    exact kk_ei hx hb hr hlocks hK hq [0, 1] () rfl (by decide) dX5_signAt_22 hf
  · skip
    refine lv_if_lt (tgt := 21) hx hb dX5_signAt_1 (by decide) (fun c_1 => ?_) (fun c_1 => ?_)
    · skip
      refine lv_iconst (v := -1) hx hb dX5_signAt_21 (by decide) ?_
      exact J_3 (-1) _ _ _ ⟨(if_pos c_1).symm, lv_sub hl [0, 1] rfl, hq⟩
    · skip
      have hp0 := kk_nlt (k := 0) rfl c_1
      refine lv_iload_n hx hb dX5_signAt_4 rfl (lv_at hl 1 rfl) ?_
      refine lv_aload_n hx hb dX5_signAt_5 rfl (lv_at hl 0 rfl) ?_
      refine kk_get (ci := 5) (v := .int T_length) (C := RX5) (T := TX5) (N := 2) hx hb hts iX5 hown hK hq 0 rfl rfl 1 (by decide) lk0_ rfl dX5_signAt_6 ?_
      refine lv_icmp_ge (tgt := 21) hx hb dX5_signAt_9 (by decide) (fun c_4 => ?_) (fun c_4 => ?_)
      · skip
        refine lv_iconst (v := -1) hx hb dX5_signAt_21 (by decide) ?_
        exact J_3 (-1) _ _ _ ⟨((if_neg c_1).trans (if_pos c_4)).symm, lv_sub hl [0, 1] rfl, hq⟩
      · skip
        have hp60 : p1.toInt < 60 := by have h := c_4; rw [il_le] at h; omega
        refine lv_aload_n hx hb dX5_signAt_12 rfl (lv_at hl 0 rfl) ?_
        refine kk_get (ci := 5) (v := .ref aS) (C := RX5) (T := TX5) (N := 2) hx hb hts iX5 hown hK hq 0 rfl rfl 0 (by decide) lk1_ rfl dX5_signAt_13 ?_
        refine lv_iload_n hx hb dX5_signAt_16 rfl (lv_at hl 1 rfl) ?_
        refine kk_iald hx hb hK hq 1 0 rfl rfl p1.toNatClampNeg (kk_cl hp0) (kk_clt hp0 hp60) (by decide) dX5_signAt_17 ?_
        refine lv_goto (tgt := 22) hx hb dX5_signAt_18 (by decide) ?_
        exact J_3 (fS p1.toNatClampNeg) _ _ _ ⟨((if_neg c_1).trans (if_neg c_4)).symm, lv_sub hl [0, 1] rfl, hq⟩
def fX5_become (O_length : Int32) (fOS : Nat → Int32) : Int32 × (Nat → Int32) :=
  (O_length, fOS)

set_option maxHeartbeats 4000000 in
set_option maxRecDepth 100000 in
theorem c_X5_become (l : Launch) (G : va_G) (aT aS aO aOS : Nat) (cS cOS : ClassId) (T_length : Int32) (fS : Nat → Int32) (O_length : Int32) (fOS : Nat → Int32) : kCv l yX5_become (Cond.code yX5_become cX5_become 2 none :: wsL_law) ({ frames := 1, cells := 0, slots := 0, locals := 60 }) G [(cS, .int), (cOS, .int)] [.ref aT, .ref aO] [(aT, .inr (5, [.ref aS, .int T_length])), (aS, .inl (cS, 60, .inl fS)), (aO, .inr (5, [.ref aOS, .int O_length])), (aOS, .inl (cOS, 60, .inl fOS))] (fun (u : Int32 × (Nat → Int32)) => u = fX5_become O_length fOS) (fun (u : Int32 × (Nat → Int32)) => [(aT, .inr (5, [.ref aS, .int u.1])), (aS, .inl (cS, 60, .inl u.2)), (aO, .inr (5, [.ref aOS, .int O_length])), (aOS, .inl (cOS, 60, .inl fOS))]) := by
  intro sz
  refine Met.ofW (cc := cX5_become) (maxL := 2) (ret := none) (by decide) rfl ?_
  intro p e s m args below meth c s₁ B hml hv
  obtain ⟨rfl, hv⟩ := hv
  obtain ⟨rfl, hK, hq, hA⟩ := kk_begin hv
  have hx := B.exec
  have hb := B.bytes
  have hr := B.returns
  have hts := atoms_spec (ws := (Cond.code yX5_become cX5_become 2 none :: wsL_law)) B.pre
  have hown : s.vm.findClass RX5 = some m.cls := findClass_of_methodNamed B.named
  have hlocks := B.notSynchronized
  have hsb : ∀ w ∈ wsL_law, w ∈ (Cond.code yX5_become cX5_become 2 none :: wsL_law) := fun _ h => List.mem_cons_of_mem _ h
  generalize va_A [(aT, .inr (5, [.ref aS, .int T_length])), (aS, .inl (cS, 60, .inl fS)), (aO, .inr (5, [.ref aOS, .int O_length])), (aOS, .inl (cOS, 60, .inl fOS))] s.heap.size = A at hq hA ⊢
  have iX5 : ∀ w ∈ u_ws RX5 TX5 2, w ∈ (Cond.code yX5_become cX5_become 2 none :: wsL_law) := fun w h => hsb w (bin_X5 w h)
  have lk0_ := hts _ (hsb _ wd_67)
  have lk1_ := hts _ (hsb _ wd_801)
  have lk2_ := hts _ (hsb _ wd_697)
  have lk3_ := hts _ (hsb _ wd_698)
  have lk4_ := hts _ (hsb _ wd_699)
  have lk5_ := hts _ (hsb _ wd_68)
  have hl := lv_entry ([.ref aT, .ref aO]) (n := 2) (Nat.le_of_ble_eq_true rfl)
  rw [lg_entry_eq]
  generalize (lg_sl ([.ref aT, .ref aO]) ++ List.replicate (2 - (lg_sl ([.ref aT, .ref aO])).length) Slot.unset).toArray = ls at hl ⊢
  have hl : lv_has ls 2 [(0, .ref aT), (1, .ref aO)] := hl
  refine lv_aload_n hx hb dX5_become_0 rfl (lv_at hl 1 rfl) ?_
  refine kk_get (ci := 5) (v := .ref aOS) (C := RX5) (T := TX5) (N := 2) hx hb hts iX5 hown hK hq 2 rfl rfl 0 (by decide) lk0_ rfl dX5_become_1 ?_
  refine lv_iconst (v := 0) hx hb dX5_become_4 (by decide) ?_
  refine lv_aload_n hx hb dX5_become_5 rfl (lv_at hl 0 rfl) ?_
  refine kk_get (ci := 5) (v := .ref aS) (C := RX5) (T := TX5) (N := 2) hx hb hts iX5 hown hK hq 0 rfl rfl 0 (by decide) lk0_ rfl dX5_become_6 ?_
  refine lv_iconst (v := 0) hx hb dX5_become_9 (by decide) ?_
  refine lv_bipush (v := 60) hx hb dX5_become_10 (by decide) ?_
  refine kk_copyi (ws' := [(aT, .inr (5, [.ref aS, .int T_length])), (aS, .inl (cS, 60, .inl fOS)), (aO, .inr (5, [.ref aOS, .int O_length])), (aOS, .inl (cOS, 60, .inl fOS))]) (N := 60) hx hb (by rw [hml]; exact hl.1.symm) hown lk1_ lk2_ lk3_ lk4_ hK hq 3 1 1 0 rfl rfl rfl rfl (by decide) (by decide) (Nat.le_of_ble_eq_true rfl) (Nat.le_of_ble_eq_true rfl) dX5_become_12 rfl (fun H locs hq => ?_)
  refine lv_aload_n hx hb dX5_become_15 rfl (lv_at hl 0 rfl) ?_
  refine lv_aload_n hx hb dX5_become_16 rfl (lv_at hl 1 rfl) ?_
  refine kk_get (ci := 5) (v := .int O_length) (C := RX5) (T := TX5) (N := 2) hx hb hts iX5 hown hK hq 2 rfl rfl 1 (by decide) lk5_ rfl dX5_become_17 ?_
  refine kk_put (ws' := [(aT, .inr (5, [.ref aS, .int O_length])), (aS, .inl (cS, 60, .inl fOS)), (aO, .inr (5, [.ref aOS, .int O_length])), (aOS, .inl (cOS, 60, .inl fOS))]) (ci := 5) (v := .int O_length) (C := RX5) (T := TX5) (N := 2) hx hb hts iX5 tyX5_ok nmX5 hown hK hq 0 rfl rfl 1 (by decide) lk5_ rfl rfl rfl (Nat.le_of_ble_eq_true rfl) dX5_become_20 rfl (fun H locs hq => ?_)
  have hf : ((O_length, fOS) : Int32 × (Nat → Int32)) = fX5_become O_length fOS := by
    exact rfl
  exact kk_ev hx hb hr hlocks hK hq [0, 1, 2, 3] (O_length, fOS) rfl (by decide) dX5_become_23 hf
theorem hd_X5_signAt : yX5_signAt.cls = RX5 ∧ yX5_signAt.cls ≠ "java/lang/invoke/MethodHandle" ∧ yX5_signAt.cls ≠ "java/lang/invoke/VarHandle" ∧ (parseMethodDescriptor yX5_signAt.desc).map (fun d => d.parameters.length) = some 1 := by decide +kernel
def lpX5_digestOnto_15 (T_length : Int32) (fS : Nat → Int32) : Nat → Int32 → Int64 → Int32 × Int64
  | 0, _, _ => (0, 0)
  | N + 1, i, h =>
    if T_length ≤ i then (
    (i, h))
    else (
    let r_4 : Int32 := fX5_signAt i T_length fS
    let x3_6 : Int64 := (31 * h) + r_4.toInt64
    lpX5_digestOnto_15 T_length fS N (i + 1) x3_6)

def fX5_digestOnto (p1 : Int64) (T_length : Int32) (fS : Nat → Int32) : Int64 :=
  let x3_1 : Int64 := (31 * p1) + T_length.toInt64
  let z_4 : Int32 × Int64 := lpX5_digestOnto_15 T_length fS (61) 0 x3_1
  z_4.2

set_option maxHeartbeats 4000000 in
set_option maxRecDepth 100000 in
theorem c_X5_digestOnto (l : Launch) (G : va_G) (aT aS : Nat) (cS : ClassId) (p1 : Int64) (T_length : Int32) (fS : Nat → Int32) (hn : T_length.toInt ≤ 60) : kCl l yX5_digestOnto (Cond.code yX5_digestOnto cX5_digestOnto 6 (some .long) :: wsL_law) ({ frames := 1, cells := 0, slots := 0, locals := 21 }) G [(cS, .int)] [.ref aT, .long p1] [(aT, .inr (5, [.ref aS, .int T_length])), (aS, .inl (cS, 60, .inl fS))] (fun (r : Int64) (_ : Unit) => r = fX5_digestOnto p1 T_length fS) (fun (_ : Unit) => [(aT, .inr (5, [.ref aS, .int T_length])), (aS, .inl (cS, 60, .inl fS))]) := by
  intro sz
  refine Met.ofW (cc := cX5_digestOnto) (maxL := 6) (ret := (some .long)) (by decide) rfl ?_
  intro p e s m args below meth c s₁ B hml hv
  obtain ⟨rfl, hv⟩ := hv
  obtain ⟨rfl, hK, hq, hA⟩ := kk_begin hv
  have hx := B.exec
  have hb := B.bytes
  have hr := B.returns
  have hts := atoms_spec (ws := (Cond.code yX5_digestOnto cX5_digestOnto 6 (some .long) :: wsL_law)) B.pre
  have hown : s.vm.findClass RX5 = some m.cls := findClass_of_methodNamed B.named
  have hlocks := B.notSynchronized
  have hsb : ∀ w ∈ wsL_law, w ∈ (Cond.code yX5_digestOnto cX5_digestOnto 6 (some .long) :: wsL_law) := fun _ h => List.mem_cons_of_mem _ h
  generalize va_A [(aT, .inr (5, [.ref aS, .int T_length])), (aS, .inl (cS, 60, .inl fS))] s.heap.size = A at hq hA ⊢
  have iX5 : ∀ w ∈ u_ws RX5 TX5 2, w ∈ (Cond.code yX5_digestOnto cX5_digestOnto 6 (some .long) :: wsL_law) := fun w h => hsb w (bin_X5 w h)
  have lk0_ := hts _ (hsb _ wd_847)
  have lk1_ := hts _ (hsb _ wd_68)
  have hl := lv_entry ([.ref aT, .long p1]) (n := 6) (Nat.le_of_ble_eq_true rfl)
  rw [lg_entry_eq]
  generalize (lg_sl ([.ref aT, .long p1]) ++ List.replicate (6 - (lg_sl ([.ref aT, .long p1])).length) Slot.unset).toArray = ls at hl ⊢
  have hl : lv_has ls 6 [(0, .ref aT), (1, .long p1)] := hl
  refine lv_ldc2 hx hb hown lk0_ dX5_digestOnto_0 ?_
  refine lv_lload_n hx hb dX5_digestOnto_3 rfl (lv_at hl 1 rfl) ?_
  refine lv_lmul hx hb dX5_digestOnto_4 ?_
  refine lv_aload_n hx hb dX5_digestOnto_5 rfl (lv_at hl 0 rfl) ?_
  refine kk_get (ci := 5) (v := .int T_length) (C := RX5) (T := TX5) (N := 2) hx hb hts iX5 hown hK hq 0 rfl rfl 1 (by decide) lk1_ rfl dX5_digestOnto_6 ?_
  refine lv_i2l hx hb dX5_digestOnto_9 rfl ?_
  refine lv_ladd hx hb dX5_digestOnto_10 ?_
  refine lv_topl (fun x3_1 ex3_1 => ?_)
  refine lv_lstore_n (lv' := [(3, .long x3_1), (0, .ref aT), (1, .long p1)]) hx hb dX5_digestOnto_11 rfl hl (by decide) rfl (fun ls hl => ?_)
  refine lv_iconst (v := 0) hx hb dX5_digestOnto_12 (by decide) ?_
  refine lv_istore (lv' := [(5, .int 0), (3, .long x3_1), (0, .ref aT), (1, .long p1)]) hx hb dX5_digestOnto_13 hl (by decide) rfl (fun ls hl => ?_)
  refine kk_loop2 (fun N (i : Int32) (h : Int64) (H : Heap) (locs : List Loc) (ls : Array Slot) => lpX5_digestOnto_15 T_length fS (61) 0 x3_1 = lpX5_digestOnto_15 T_length fS N i h ∧ (0 ≤ i.toInt) ∧ (i.toInt ≤ 60) ∧ (i.toInt + N = 61) ∧ lv_has ls 6 [(5, .int i), (3, .long h), (0, .ref aT), (1, .long p1)] ∧ kAt G A s [(aT, .inr (5, [.ref aS, .int T_length])), (aS, .inl (cS, 60, .inl fS))] H locs) 15 (fun i h => []) (fun i h H locs ls hv => ?_) (fun N i h H locs ls ih hv => ?_) (61) 0 x3_1 _ _ _ ⟨rfl, (by decide), (by decide), (by decide), lv_sub hl [0, 1, 2, 3] rfl, hq⟩
  · skip
    obtain ⟨hrel, h0, h1, hN, hl, hq⟩ := hv
    omega
  · skip
    obtain ⟨hrel, h0, h1, hN, hl, hq⟩ := hv
    refine lv_iload hx hb dX5_digestOnto_15 (lv_at hl 0 rfl) ?_
    refine lv_aload_n hx hb dX5_digestOnto_17 rfl (lv_at hl 2 rfl) ?_
    refine kk_get (ci := 5) (v := .int T_length) (C := RX5) (T := TX5) (N := 2) hx hb hts iX5 hown hK hq 0 rfl rfl 1 (by decide) lk1_ rfl dX5_digestOnto_18 ?_
    refine lv_icmp_ge (tgt := 44) hx hb dX5_digestOnto_21 (by decide) (fun c_2 => ?_) (fun c_2 => ?_)
    · skip
      have hx_3 : ((i, h) : Int32 × Int64) = lpX5_digestOnto_15 T_length fS (61) 0 x3_1 := (hrel.trans ((if_pos c_2))).symm
      obtain ⟨z_4, gz_4⟩ : ∃ z : Int32 × Int64, z = (i, h) := ⟨_, rfl⟩
      have ez_4 : z_4 = lpX5_digestOnto_15 T_length fS (61) 0 x3_1 := gz_4.trans hx_3
      have hl : lv_has ls 6 [(5, .int z_4.1), (3, .long z_4.2), (0, .ref aT), (1, .long p1)] := by subst gz_4; exact hl
      have hq : kAt G A s [(aT, .inr (5, [.ref aS, .int T_length])), (aS, .inl (cS, 60, .inl fS))] H locs := by subst gz_4; exact hq
      refine lv_lload_n hx hb dX5_digestOnto_44 rfl (lv_at hl 1 rfl) ?_
      have hf : (z_4.2 : Int64) = fX5_digestOnto p1 T_length fS := by
        exact ((congrArg (fun (x3_1 : Int64) => ((let z_4 : Int32 × Int64 := lpX5_digestOnto_15 T_length fS (61) 0 x3_1
  z_4.2) : Int64)) ex3_1.symm).trans ((congrArg (fun (z_4 : Int32 × Int64) => ((z_4.2) : Int64)) ez_4.symm))).symm
      exact kk_el hx hb hr hlocks hK hq [0, 1] () rfl (by decide) dX5_digestOnto_45 hf
    · skip
      have hi : i.toInt < 60 := by have h := c_2; rw [il_le] at h; omega
      refine lv_ldc2 hx hb hown lk0_ dX5_digestOnto_24 ?_
      refine lv_lload_n hx hb dX5_digestOnto_27 rfl (lv_at hl 1 rfl) ?_
      refine lv_lmul hx hb dX5_digestOnto_28 ?_
      refine lv_aload_n hx hb dX5_digestOnto_29 rfl (lv_at hl 2 rfl) ?_
      refine lv_iload hx hb dX5_digestOnto_30 (lv_at hl 0 rfl) ?_
      refine kk_Vi (As := [.int i]) (rest := [.long (31 * h)]) (wr := []) ⟨hx, hb, hml, hown, hts⟩ (c_X5_signAt l G aT aS cS i T_length fS (by assumption)) (kk_cwV 1 hts hsb wd_848 wd_202 wd_203 wd_52 wd_204 rfl rfl hd_X5_signAt ⟨Nat.le_of_ble_eq_true rfl, Nat.le_of_ble_eq_true rfl⟩) hA hK hq [0, 1] [] [0] rfl rfl rfl (by decide) (by decide) (by decide) 0 5 rfl rfl rfl rfl hl.1 rfl (Nat.le_of_ble_eq_true rfl) dX5_digestOnto_32 ⟨Nat.zero_le _, Nat.zero_le _⟩ (fun r_6 u_5 H locs h_7 hq => ?_)
      have er_6 := h_7
      have hq : kAt G A s [(aT, .inr (5, [.ref aS, .int T_length])), (aS, .inl (cS, 60, .inl fS))] H locs := hq
      refine lv_i2l hx hb dX5_digestOnto_35 rfl ?_
      refine lv_ladd hx hb dX5_digestOnto_36 ?_
      refine lv_topl (fun x3_8 ex3_8 => ?_)
      refine lv_lstore_n (lv' := [(3, .long x3_8), (5, .int i), (0, .ref aT), (1, .long p1)]) hx hb dX5_digestOnto_37 rfl hl (by decide) rfl (fun ls hl => ?_)
      refine lv_iinc (v := i + 1) (lv' := [(5, .int (i + 1)), (3, .long x3_8), (0, .ref aT), (1, .long p1)]) hx hb dX5_digestOnto_38 hl (k := 1) rfl rfl (by decide) rfl (fun ls hl => ?_)
      refine lv_goto (tgt := 15) hx hb dX5_digestOnto_41 (by decide) ?_
      exact ih (i + 1) x3_8 _ _ _ ⟨(hrel.trans ((if_neg c_2).trans ((congrArg (fun (r_6 : Int32) => ((let x3_6 : Int64 := (31 * h) + r_6.toInt64
    lpX5_digestOnto_15 T_length fS N (i + 1) x3_6) : Int32 × Int64)) er_6.symm).trans ((congrArg (fun (x3_8 : Int64) => ((lpX5_digestOnto_15 T_length fS N (i + 1) x3_8) : Int32 × Int64)) ex3_8.symm))))), (by have := kk_inc (x := i) (by omega); omega), (by have := kk_inc (x := i) (by omega); omega), (by have := kk_inc (x := i) (by omega); omega), lv_sub hl [0, 1, 2, 3] rfl, hq⟩
def fX3_add (p1 : Int32) (p2 : Int32) (P_count : Int32) (fT : Nat → Int32) (fF : Nat → Int32) : Int32 × (Nat → Int32) × (Nat → Int32) :=
  let count_2 : Int32 := if 8 ≤ P_count then P_count else P_count + 1
  let gT_3 : Nat → Int32 := if 8 ≤ P_count then fT else upd fT P_count.toNatClampNeg p1
  let gF_4 : Nat → Int32 := if 8 ≤ P_count then fF else upd fF P_count.toNatClampNeg p2
  (count_2, gT_3, gF_4)

set_option maxHeartbeats 4000000 in
set_option maxRecDepth 100000 in
theorem c_X3_add (l : Launch) (G : va_G) (aP aT aF : Nat) (cT cF : ClassId) (p1 : Int32) (p2 : Int32) (P_count : Int32) (fT : Nat → Int32) (fF : Nat → Int32) (h0 : 0 ≤ P_count.toInt) : kCv l yX3_add (Cond.code yX3_add cX3_add 3 none :: wsL_law) ({ frames := 0, cells := 0, slots := 0, locals := 0 }) G [(cT, .int), (cF, .int)] [.ref aP, .int p1, .int p2] [(aP, .inr (3, [.ref aT, .ref aF, .int P_count])), (aT, .inl (cT, 8, .inl fT)), (aF, .inl (cF, 8, .inl fF))] (fun (u : Int32 × (Nat → Int32) × (Nat → Int32)) => u = fX3_add p1 p2 P_count fT fF) (fun (u : Int32 × (Nat → Int32) × (Nat → Int32)) => [(aP, .inr (3, [.ref aT, .ref aF, .int u.1])), (aT, .inl (cT, 8, .inl u.2.1)), (aF, .inl (cF, 8, .inl u.2.2))]) := by
  intro sz
  refine Met.ofW (cc := cX3_add) (maxL := 3) (ret := none) (by decide) rfl ?_
  intro p e s m args below meth c s₁ B hml hv
  obtain ⟨rfl, hv⟩ := hv
  obtain ⟨rfl, hK, hq, hA⟩ := kk_begin hv
  have hx := B.exec
  have hb := B.bytes
  have hr := B.returns
  have hts := atoms_spec (ws := (Cond.code yX3_add cX3_add 3 none :: wsL_law)) B.pre
  have hown : s.vm.findClass RX3 = some m.cls := findClass_of_methodNamed B.named
  have hlocks := B.notSynchronized
  have hsb : ∀ w ∈ wsL_law, w ∈ (Cond.code yX3_add cX3_add 3 none :: wsL_law) := fun _ h => List.mem_cons_of_mem _ h
  generalize va_A [(aP, .inr (3, [.ref aT, .ref aF, .int P_count])), (aT, .inl (cT, 8, .inl fT)), (aF, .inl (cF, 8, .inl fF))] s.heap.size = A at hq hA ⊢
  have iX3 : ∀ w ∈ u_ws RX3 TX3 3, w ∈ (Cond.code yX3_add cX3_add 3 none :: wsL_law) := fun w h => hsb w (bin_X3 w h)
  have lk0_ := hts _ (hsb _ wd_74)
  have lk1_ := hts _ (hsb _ wd_72)
  have lk2_ := hts _ (hsb _ wd_73)
  have hl := lv_entry ([.ref aP, .int p1, .int p2]) (n := 3) (Nat.le_of_ble_eq_true rfl)
  rw [lg_entry_eq]
  generalize (lg_sl ([.ref aP, .int p1, .int p2]) ++ List.replicate (3 - (lg_sl ([.ref aP, .int p1, .int p2])).length) Slot.unset).toArray = ls at hl ⊢
  have hl : lv_has ls 3 [(0, .ref aP), (1, .int p1), (2, .int p2)] := hl
  refine lv_aload_n hx hb dX3_add_0 rfl (lv_at hl 0 rfl) ?_
  refine kk_get (ci := 3) (v := .int P_count) (C := RX3) (T := TX3) (N := 3) hx hb hts iX3 hown hK hq 0 rfl rfl 2 (by decide) lk0_ rfl dX3_add_1 ?_
  refine lv_bipush (v := 8) hx hb dX3_add_4 (by decide) ?_
  refine kk_join3 (fun (count_2 : Int32) (gT_3 : Nat → Int32) (gF_4 : Nat → Int32) (H : Heap) (locs : List Loc) (ls : Array Slot) => count_2 = (if 8 ≤ P_count then P_count else P_count + 1) ∧ gT_3 = (if 8 ≤ P_count then fT else upd fT P_count.toNatClampNeg p1) ∧ gF_4 = (if 8 ≤ P_count then fF else upd fF P_count.toNatClampNeg p2) ∧ lv_has ls 3 [(0, .ref aP), (1, .int p1), (2, .int p2)] ∧ kAt G A s [(aP, .inr (3, [.ref aT, .ref aF, .int count_2])), (aT, .inl (cT, 8, .inl gT_3)), (aF, .inl (cF, 8, .inl gF_4))] H locs) 39 (fun count_2 gT_3 gF_4 => []) (fun count_2 gT_3 gF_4 H locs ls hv => ?_) (fun J_5 => ?_)
  · skip
    obtain ⟨ecount_2, egT_3, egF_4, hl, hq⟩ := hv
    have hf : ((count_2, gT_3, gF_4) : Int32 × (Nat → Int32) × (Nat → Int32)) = fX3_add p1 p2 P_count fT fF := by
      exact ((congrArg (fun (count_2 : Int32) => ((let gT_3 : Nat → Int32 := if 8 ≤ P_count then fT else upd fT P_count.toNatClampNeg p1
  let gF_4 : Nat → Int32 := if 8 ≤ P_count then fF else upd fF P_count.toNatClampNeg p2
  (count_2, gT_3, gF_4)) : Int32 × (Nat → Int32) × (Nat → Int32))) ecount_2.symm).trans ((congrArg (fun (gT_3 : Nat → Int32) => ((let gF_4 : Nat → Int32 := if 8 ≤ P_count then fF else upd fF P_count.toNatClampNeg p2
  (count_2, gT_3, gF_4)) : Int32 × (Nat → Int32) × (Nat → Int32))) egT_3.symm).trans ((congrArg (fun (gF_4 : Nat → Int32) => (((count_2, gT_3, gF_4)) : Int32 × (Nat → Int32) × (Nat → Int32))) egF_4.symm)))).symm
    exact kk_ev hx hb hr hlocks hK hq [0, 1, 2] (count_2, gT_3, gF_4) rfl (by decide) dX3_add_39 hf
  · skip
    refine lv_icmp_ge (tgt := 39) hx hb dX3_add_6 (by decide) (fun c_1 => ?_) (fun c_1 => ?_)
    · skip
      exact J_5 P_count fT fF _ _ _ ⟨(if_pos c_1).symm, (if_pos c_1).symm, (if_pos c_1).symm, lv_sub hl [0, 1, 2] rfl, hq⟩
    · skip
      have h8 := kk_nle (k := 8) rfl c_1
      refine lv_aload_n hx hb dX3_add_9 rfl (lv_at hl 0 rfl) ?_
      refine kk_get (ci := 3) (v := .ref aT) (C := RX3) (T := TX3) (N := 3) hx hb hts iX3 hown hK hq 0 rfl rfl 0 (by decide) lk1_ rfl dX3_add_10 ?_
      refine lv_aload_n hx hb dX3_add_13 rfl (lv_at hl 0 rfl) ?_
      refine kk_get (ci := 3) (v := .int P_count) (C := RX3) (T := TX3) (N := 3) hx hb hts iX3 hown hK hq 0 rfl rfl 2 (by decide) lk0_ rfl dX3_add_14 ?_
      refine lv_iload_n hx hb dX3_add_17 rfl (lv_at hl 1 rfl) ?_
      refine kk_iast (ws' := [(aP, .inr (3, [.ref aT, .ref aF, .int P_count])), (aT, .inl (cT, 8, .inl (upd fT P_count.toNatClampNeg p1))), (aF, .inl (cF, 8, .inl fF))]) hx hb hK hq 1 0 rfl rfl P_count.toNatClampNeg (kk_cl h0) (kk_clt h0 h8) (by decide) dX3_add_18 rfl (fun H locs hq => ?_)
      refine lv_aload_n hx hb dX3_add_19 rfl (lv_at hl 0 rfl) ?_
      refine kk_get (ci := 3) (v := .ref aF) (C := RX3) (T := TX3) (N := 3) hx hb hts iX3 hown hK hq 0 rfl rfl 1 (by decide) lk2_ rfl dX3_add_20 ?_
      refine lv_aload_n hx hb dX3_add_23 rfl (lv_at hl 0 rfl) ?_
      refine kk_get (ci := 3) (v := .int P_count) (C := RX3) (T := TX3) (N := 3) hx hb hts iX3 hown hK hq 0 rfl rfl 2 (by decide) lk0_ rfl dX3_add_24 ?_
      refine lv_iload_n hx hb dX3_add_27 rfl (lv_at hl 2 rfl) ?_
      refine kk_iast (ws' := [(aP, .inr (3, [.ref aT, .ref aF, .int P_count])), (aT, .inl (cT, 8, .inl (upd fT P_count.toNatClampNeg p1))), (aF, .inl (cF, 8, .inl (upd fF P_count.toNatClampNeg p2)))]) hx hb hK hq 2 1 rfl rfl P_count.toNatClampNeg (kk_cl h0) (kk_clt h0 h8) (by decide) dX3_add_28 rfl (fun H locs hq => ?_)
      refine lv_aload_n hx hb dX3_add_29 rfl (lv_at hl 0 rfl) ?_
      refine lv_dup hx hb dX3_add_30 rfl ?_
      refine kk_get (ci := 3) (v := .int P_count) (C := RX3) (T := TX3) (N := 3) hx hb hts iX3 hown hK hq 0 rfl rfl 2 (by decide) lk0_ rfl dX3_add_31 ?_
      refine lv_iconst (v := 1) hx hb dX3_add_34 (by decide) ?_
      refine lv_iadd hx hb dX3_add_35 ?_
      refine kk_put (ws' := [(aP, .inr (3, [.ref aT, .ref aF, .int (P_count + 1)])), (aT, .inl (cT, 8, .inl (upd fT P_count.toNatClampNeg p1))), (aF, .inl (cF, 8, .inl (upd fF P_count.toNatClampNeg p2)))]) (ci := 3) (v := .int (P_count + 1)) (C := RX3) (T := TX3) (N := 3) hx hb hts iX3 tyX3_ok nmX3 hown hK hq 0 rfl rfl 2 (by decide) lk0_ rfl rfl rfl (Nat.le_of_ble_eq_true rfl) dX3_add_36 rfl (fun H locs hq => ?_)
      exact J_5 (P_count + 1) (upd fT P_count.toNatClampNeg p1) (upd fF P_count.toNatClampNeg p2) _ _ _ ⟨(if_neg c_1).symm, (if_neg c_1).symm, (if_neg c_1).symm, lv_sub hl [0, 1, 2] rfl, hq⟩
def lpX3_forceAt_4 (p1 : Int32) (P_count : Int32) (fT : Nat → Int32) (fF : Nat → Int32) : Nat → Int32 → Int32 → Int32 × Int32
  | 0, _, _ => (0, 0)
  | N + 1, i, sm =>
    if P_count ≤ i then (
    (i, sm))
    else (
    if 8 ≤ i then (
    (i, sm))
    else (
    let z0_4 : Int32 := if fT i.toNatClampNeg = p1 then fF i.toNatClampNeg else 0
    let x2_6 : Int32 := sm + z0_4
    lpX3_forceAt_4 p1 P_count fT fF N (i + 1) x2_6))

def fX3_forceAt (p1 : Int32) (P_count : Int32) (fT : Nat → Int32) (fF : Nat → Int32) : Int32 :=
  let z_6 : Int32 × Int32 := lpX3_forceAt_4 p1 P_count fT fF (9) 0 0
  z_6.2

set_option maxHeartbeats 4000000 in
set_option maxRecDepth 100000 in
theorem c_X3_forceAt (l : Launch) (G : va_G) (aP aT aF : Nat) (cT cF : ClassId) (p1 : Int32) (P_count : Int32) (fT : Nat → Int32) (fF : Nat → Int32) : kCi l yX3_forceAt (Cond.code yX3_forceAt cX3_forceAt 4 (some .int) :: wsL_law) ({ frames := 0, cells := 0, slots := 0, locals := 0 }) G [(cT, .int), (cF, .int)] [.ref aP, .int p1] [(aP, .inr (3, [.ref aT, .ref aF, .int P_count])), (aT, .inl (cT, 8, .inl fT)), (aF, .inl (cF, 8, .inl fF))] (fun (r : Int32) (_ : Unit) => r = fX3_forceAt p1 P_count fT fF) (fun (_ : Unit) => [(aP, .inr (3, [.ref aT, .ref aF, .int P_count])), (aT, .inl (cT, 8, .inl fT)), (aF, .inl (cF, 8, .inl fF))]) := by
  intro sz
  refine Met.ofW (cc := cX3_forceAt) (maxL := 4) (ret := (some .int)) (by decide) rfl ?_
  intro p e s m args below meth c s₁ B hml hv
  obtain ⟨rfl, hv⟩ := hv
  obtain ⟨rfl, hK, hq, hA⟩ := kk_begin hv
  have hx := B.exec
  have hb := B.bytes
  have hr := B.returns
  have hts := atoms_spec (ws := (Cond.code yX3_forceAt cX3_forceAt 4 (some .int) :: wsL_law)) B.pre
  have hown : s.vm.findClass RX3 = some m.cls := findClass_of_methodNamed B.named
  have hlocks := B.notSynchronized
  have hsb : ∀ w ∈ wsL_law, w ∈ (Cond.code yX3_forceAt cX3_forceAt 4 (some .int) :: wsL_law) := fun _ h => List.mem_cons_of_mem _ h
  generalize va_A [(aP, .inr (3, [.ref aT, .ref aF, .int P_count])), (aT, .inl (cT, 8, .inl fT)), (aF, .inl (cF, 8, .inl fF))] s.heap.size = A at hq hA ⊢
  have iX3 : ∀ w ∈ u_ws RX3 TX3 3, w ∈ (Cond.code yX3_forceAt cX3_forceAt 4 (some .int) :: wsL_law) := fun w h => hsb w (bin_X3 w h)
  have lk0_ := hts _ (hsb _ wd_74)
  have lk1_ := hts _ (hsb _ wd_72)
  have lk2_ := hts _ (hsb _ wd_73)
  have hl := lv_entry ([.ref aP, .int p1]) (n := 4) (Nat.le_of_ble_eq_true rfl)
  rw [lg_entry_eq]
  generalize (lg_sl ([.ref aP, .int p1]) ++ List.replicate (4 - (lg_sl ([.ref aP, .int p1])).length) Slot.unset).toArray = ls at hl ⊢
  have hl : lv_has ls 4 [(0, .ref aP), (1, .int p1)] := hl
  refine lv_iconst (v := 0) hx hb dX3_forceAt_0 (by decide) ?_
  refine lv_istore_n (lv' := [(2, .int 0), (0, .ref aP), (1, .int p1)]) hx hb dX3_forceAt_1 rfl hl (by decide) rfl (fun ls hl => ?_)
  refine lv_iconst (v := 0) hx hb dX3_forceAt_2 (by decide) ?_
  refine lv_istore_n (lv' := [(3, .int 0), (2, .int 0), (0, .ref aP), (1, .int p1)]) hx hb dX3_forceAt_3 rfl hl (by decide) rfl (fun ls hl => ?_)
  refine kk_loop2 (fun N (i : Int32) (sm : Int32) (H : Heap) (locs : List Loc) (ls : Array Slot) => lpX3_forceAt_4 p1 P_count fT fF (9) 0 0 = lpX3_forceAt_4 p1 P_count fT fF N i sm ∧ (0 ≤ i.toInt) ∧ (i.toInt ≤ 8) ∧ (i.toInt + N = 9) ∧ lv_has ls 4 [(3, .int i), (2, .int sm), (0, .ref aP), (1, .int p1)] ∧ kAt G A s [(aP, .inr (3, [.ref aT, .ref aF, .int P_count])), (aT, .inl (cT, 8, .inl fT)), (aF, .inl (cF, 8, .inl fF))] H locs) 4 (fun i sm => []) (fun i sm H locs ls hv => ?_) (fun N i sm H locs ls ih hv => ?_) (9) 0 0 _ _ _ ⟨rfl, (by decide), (by decide), (by decide), lv_sub hl [0, 1, 2, 3] rfl, hq⟩
  · skip
    obtain ⟨hrel, h0, h1, hN, hl, hq⟩ := hv
    omega
  · skip
    obtain ⟨hrel, h0, h1, hN, hl, hq⟩ := hv
    refine lv_iload_n hx hb dX3_forceAt_4 rfl (lv_at hl 0 rfl) ?_
    refine lv_aload_n hx hb dX3_forceAt_5 rfl (lv_at hl 2 rfl) ?_
    refine kk_get (ci := 3) (v := .int P_count) (C := RX3) (T := TX3) (N := 3) hx hb hts iX3 hown hK hq 0 rfl rfl 2 (by decide) lk0_ rfl dX3_forceAt_6 ?_
    refine lv_icmp_ge (tgt := 47) hx hb dX3_forceAt_9 (by decide) (fun c_1 => ?_) (fun c_1 => ?_)
    · skip
      have hx_2 : ((i, sm) : Int32 × Int32) = lpX3_forceAt_4 p1 P_count fT fF (9) 0 0 := (hrel.trans ((if_pos c_1))).symm
      obtain ⟨z_3, gz_3⟩ : ∃ z : Int32 × Int32, z = (i, sm) := ⟨_, rfl⟩
      have ez_3 : z_3 = lpX3_forceAt_4 p1 P_count fT fF (9) 0 0 := gz_3.trans hx_2
      have hl : lv_has ls 4 [(3, .int z_3.1), (2, .int z_3.2), (0, .ref aP), (1, .int p1)] := by subst gz_3; exact hl
      have hq : kAt G A s [(aP, .inr (3, [.ref aT, .ref aF, .int P_count])), (aT, .inl (cT, 8, .inl fT)), (aF, .inl (cF, 8, .inl fF))] H locs := by subst gz_3; exact hq
      refine lv_iload_n hx hb dX3_forceAt_47 rfl (lv_at hl 1 rfl) ?_
      have hf : (z_3.2 : Int32) = fX3_forceAt p1 P_count fT fF := by
        exact ((congrArg (fun (z_3 : Int32 × Int32) => ((z_3.2) : Int32)) ez_3.symm)).symm
      exact kk_ei hx hb hr hlocks hK hq [0, 1, 2] () rfl (by decide) dX3_forceAt_48 hf
    · skip
      refine lv_iload_n hx hb dX3_forceAt_12 rfl (lv_at hl 0 rfl) ?_
      refine lv_bipush (v := 8) hx hb dX3_forceAt_13 (by decide) ?_
      refine lv_icmp_ge (tgt := 47) hx hb dX3_forceAt_15 (by decide) (fun c_4 => ?_) (fun c_4 => ?_)
      · skip
        have hx_5 : ((i, sm) : Int32 × Int32) = lpX3_forceAt_4 p1 P_count fT fF (9) 0 0 := (hrel.trans ((if_neg c_1).trans ((if_pos c_4)))).symm
        obtain ⟨z_6, gz_6⟩ : ∃ z : Int32 × Int32, z = (i, sm) := ⟨_, rfl⟩
        have ez_6 : z_6 = lpX3_forceAt_4 p1 P_count fT fF (9) 0 0 := gz_6.trans hx_5
        have hl : lv_has ls 4 [(3, .int z_6.1), (2, .int z_6.2), (0, .ref aP), (1, .int p1)] := by subst gz_6; exact hl
        have hq : kAt G A s [(aP, .inr (3, [.ref aT, .ref aF, .int P_count])), (aT, .inl (cT, 8, .inl fT)), (aF, .inl (cF, 8, .inl fF))] H locs := by subst gz_6; exact hq
        refine lv_iload_n hx hb dX3_forceAt_47 rfl (lv_at hl 1 rfl) ?_
        have hf : (z_6.2 : Int32) = fX3_forceAt p1 P_count fT fF := by
          exact ((congrArg (fun (z_6 : Int32 × Int32) => ((z_6.2) : Int32)) ez_6.symm)).symm
        exact kk_ei hx hb hr hlocks hK hq [0, 1, 2] () rfl (by decide) dX3_forceAt_48 hf
      · skip
        have hi := kk_nle (k := 8) rfl c_4
        refine lv_iload_n hx hb dX3_forceAt_18 rfl (lv_at hl 1 rfl) ?_
        refine lv_aload_n hx hb dX3_forceAt_19 rfl (lv_at hl 2 rfl) ?_
        refine kk_get (ci := 3) (v := .ref aT) (C := RX3) (T := TX3) (N := 3) hx hb hts iX3 hown hK hq 0 rfl rfl 0 (by decide) lk1_ rfl dX3_forceAt_20 ?_
        refine lv_iload_n hx hb dX3_forceAt_23 rfl (lv_at hl 0 rfl) ?_
        refine kk_iald hx hb hK hq 1 0 rfl rfl i.toNatClampNeg (kk_cl h0) (kk_clt h0 hi) (by decide) dX3_forceAt_24 ?_
        refine lv_iload_n hx hb dX3_forceAt_25 rfl (lv_at hl 3 rfl) ?_
        refine kk_join1 (fun (z0_8 : Int32) (H : Heap) (locs : List Loc) (ls : Array Slot) => z0_8 = (if fT i.toNatClampNeg = p1 then fF i.toNatClampNeg else 0) ∧ lv_has ls 4 [(3, .int i), (2, .int sm), (0, .ref aP), (1, .int p1)] ∧ kAt G A s [(aP, .inr (3, [.ref aT, .ref aF, .int P_count])), (aT, .inl (cT, 8, .inl fT)), (aF, .inl (cF, 8, .inl fF))] H locs) 39 (fun z0_8 => [.int z0_8, .int sm]) (fun z0_8 H locs ls hv => ?_) (fun J_9 => ?_)
        · skip
          obtain ⟨ez0_8, hl, hq⟩ := hv
          refine lv_iadd hx hb dX3_forceAt_39 ?_
          refine lv_topi (fun x2_10 ex2_10 => ?_)
          refine lv_istore_n (lv' := [(2, .int x2_10), (3, .int i), (0, .ref aP), (1, .int p1)]) hx hb dX3_forceAt_40 rfl hl (by decide) rfl (fun ls hl => ?_)
          refine lv_iinc (v := i + 1) (lv' := [(3, .int (i + 1)), (2, .int x2_10), (0, .ref aP), (1, .int p1)]) hx hb dX3_forceAt_41 hl (k := 1) rfl rfl (by decide) rfl (fun ls hl => ?_)
          refine lv_goto (tgt := 4) hx hb dX3_forceAt_44 (by decide) ?_
          exact ih (i + 1) x2_10 _ _ _ ⟨(hrel.trans ((if_neg c_1).trans ((if_neg c_4).trans ((congrArg (fun (z0_8 : Int32) => ((let x2_6 : Int32 := sm + z0_8
    lpX3_forceAt_4 p1 P_count fT fF N (i + 1) x2_6) : Int32 × Int32)) ez0_8.symm).trans ((congrArg (fun (x2_10 : Int32) => ((lpX3_forceAt_4 p1 P_count fT fF N (i + 1) x2_10) : Int32 × Int32)) ex2_10.symm)))))), (by have := kk_inc (x := i) (by omega); omega), (by have := kk_inc (x := i) (by omega); omega), (by have := kk_inc (x := i) (by omega); omega), lv_sub hl [0, 1, 2, 3] rfl, hq⟩
        · skip
          refine lv_icmp_ne (tgt := 38) hx hb dX3_forceAt_26 (by decide) (fun c_7 => ?_) (fun c_7 => ?_)
          · skip
            refine lv_iconst (v := 0) hx hb dX3_forceAt_38 (by decide) ?_
            exact J_9 0 _ _ _ ⟨(if_neg c_7).symm, lv_sub hl [0, 1, 2, 3] rfl, hq⟩
          · skip
            refine lv_aload_n hx hb dX3_forceAt_29 rfl (lv_at hl 2 rfl) ?_
            refine kk_get (ci := 3) (v := .ref aF) (C := RX3) (T := TX3) (N := 3) hx hb hts iX3 hown hK hq 0 rfl rfl 1 (by decide) lk2_ rfl dX3_forceAt_30 ?_
            refine lv_iload_n hx hb dX3_forceAt_33 rfl (lv_at hl 0 rfl) ?_
            refine kk_iald hx hb hK hq 2 1 rfl rfl i.toNatClampNeg (kk_cl h0) (kk_clt h0 hi) (by decide) dX3_forceAt_34 ?_
            refine lv_goto (tgt := 39) hx hb dX3_forceAt_35 (by decide) ?_
            exact J_9 (fF i.toNatClampNeg) _ _ _ ⟨(if_pos c_7).symm, lv_sub hl [0, 1, 2, 3] rfl, hq⟩
def lpX3_digestOnto_5 (P_count : Int32) (fT : Nat → Int32) (fF : Nat → Int32) : Nat → Int32 → Int64 → Int32 × Int64
  | 0, _, _ => (0, 0)
  | N + 1, i, h =>
    if P_count ≤ i then (
    (i, h))
    else (
    if 8 ≤ i then (
    (i, h))
    else (
    let x3_3 : Int64 := (31 * h) + ((fT i.toNatClampNeg).toInt64)
    let x3_4 : Int64 := (31 * x3_3) + ((fF i.toNatClampNeg).toInt64)
    lpX3_digestOnto_5 P_count fT fF N (i + 1) x3_4))

def fX3_digestOnto (p1 : Int64) (P_count : Int32) (fT : Nat → Int32) (fF : Nat → Int32) : Int64 :=
  let z_6 : Int32 × Int64 := lpX3_digestOnto_5 P_count fT fF (9) 0 p1
  z_6.2

set_option maxHeartbeats 4000000 in
set_option maxRecDepth 100000 in
theorem c_X3_digestOnto (l : Launch) (G : va_G) (aP aT aF : Nat) (cT cF : ClassId) (p1 : Int64) (P_count : Int32) (fT : Nat → Int32) (fF : Nat → Int32) : kCl l yX3_digestOnto (Cond.code yX3_digestOnto cX3_digestOnto 6 (some .long) :: wsL_law) ({ frames := 0, cells := 0, slots := 0, locals := 0 }) G [(cT, .int), (cF, .int)] [.ref aP, .long p1] [(aP, .inr (3, [.ref aT, .ref aF, .int P_count])), (aT, .inl (cT, 8, .inl fT)), (aF, .inl (cF, 8, .inl fF))] (fun (r : Int64) (_ : Unit) => r = fX3_digestOnto p1 P_count fT fF) (fun (_ : Unit) => [(aP, .inr (3, [.ref aT, .ref aF, .int P_count])), (aT, .inl (cT, 8, .inl fT)), (aF, .inl (cF, 8, .inl fF))]) := by
  intro sz
  refine Met.ofW (cc := cX3_digestOnto) (maxL := 6) (ret := (some .long)) (by decide) rfl ?_
  intro p e s m args below meth c s₁ B hml hv
  obtain ⟨rfl, hv⟩ := hv
  obtain ⟨rfl, hK, hq, hA⟩ := kk_begin hv
  have hx := B.exec
  have hb := B.bytes
  have hr := B.returns
  have hts := atoms_spec (ws := (Cond.code yX3_digestOnto cX3_digestOnto 6 (some .long) :: wsL_law)) B.pre
  have hown : s.vm.findClass RX3 = some m.cls := findClass_of_methodNamed B.named
  have hlocks := B.notSynchronized
  have hsb : ∀ w ∈ wsL_law, w ∈ (Cond.code yX3_digestOnto cX3_digestOnto 6 (some .long) :: wsL_law) := fun _ h => List.mem_cons_of_mem _ h
  generalize va_A [(aP, .inr (3, [.ref aT, .ref aF, .int P_count])), (aT, .inl (cT, 8, .inl fT)), (aF, .inl (cF, 8, .inl fF))] s.heap.size = A at hq hA ⊢
  have iX3 : ∀ w ∈ u_ws RX3 TX3 3, w ∈ (Cond.code yX3_digestOnto cX3_digestOnto 6 (some .long) :: wsL_law) := fun w h => hsb w (bin_X3 w h)
  have lk0_ := hts _ (hsb _ wd_74)
  have lk1_ := hts _ (hsb _ wd_853)
  have lk2_ := hts _ (hsb _ wd_72)
  have lk3_ := hts _ (hsb _ wd_73)
  have hl := lv_entry ([.ref aP, .long p1]) (n := 6) (Nat.le_of_ble_eq_true rfl)
  rw [lg_entry_eq]
  generalize (lg_sl ([.ref aP, .long p1]) ++ List.replicate (6 - (lg_sl ([.ref aP, .long p1])).length) Slot.unset).toArray = ls at hl ⊢
  have hl : lv_has ls 6 [(0, .ref aP), (1, .long p1)] := hl
  refine lv_lload_n hx hb dX3_digestOnto_0 rfl (lv_at hl 1 rfl) ?_
  refine lv_lstore_n (lv' := [(3, .long p1), (0, .ref aP), (1, .long p1)]) hx hb dX3_digestOnto_1 rfl hl (by decide) rfl (fun ls hl => ?_)
  refine lv_iconst (v := 0) hx hb dX3_digestOnto_2 (by decide) ?_
  refine lv_istore (lv' := [(5, .int 0), (3, .long p1), (0, .ref aP), (1, .long p1)]) hx hb dX3_digestOnto_3 hl (by decide) rfl (fun ls hl => ?_)
  refine kk_loop2 (fun N (i : Int32) (h : Int64) (H : Heap) (locs : List Loc) (ls : Array Slot) => lpX3_digestOnto_5 P_count fT fF (9) 0 p1 = lpX3_digestOnto_5 P_count fT fF N i h ∧ (0 ≤ i.toInt) ∧ (i.toInt ≤ 8) ∧ (i.toInt + N = 9) ∧ lv_has ls 6 [(5, .int i), (3, .long h), (0, .ref aP), (1, .long p1)] ∧ kAt G A s [(aP, .inr (3, [.ref aT, .ref aF, .int P_count])), (aT, .inl (cT, 8, .inl fT)), (aF, .inl (cF, 8, .inl fF))] H locs) 5 (fun i h => []) (fun i h H locs ls hv => ?_) (fun N i h H locs ls ih hv => ?_) (9) 0 p1 _ _ _ ⟨rfl, (by decide), (by decide), (by decide), lv_sub hl [0, 1, 2, 3] rfl, hq⟩
  · skip
    obtain ⟨hrel, h0, h1, hN, hl, hq⟩ := hv
    omega
  · skip
    obtain ⟨hrel, h0, h1, hN, hl, hq⟩ := hv
    refine lv_iload hx hb dX3_digestOnto_5 (lv_at hl 0 rfl) ?_
    refine lv_aload_n hx hb dX3_digestOnto_7 rfl (lv_at hl 2 rfl) ?_
    refine kk_get (ci := 3) (v := .int P_count) (C := RX3) (T := TX3) (N := 3) hx hb hts iX3 hown hK hq 0 rfl rfl 2 (by decide) lk0_ rfl dX3_digestOnto_8 ?_
    refine lv_icmp_ge (tgt := 57) hx hb dX3_digestOnto_11 (by decide) (fun c_1 => ?_) (fun c_1 => ?_)
    · skip
      have hx_2 : ((i, h) : Int32 × Int64) = lpX3_digestOnto_5 P_count fT fF (9) 0 p1 := (hrel.trans ((if_pos c_1))).symm
      obtain ⟨z_3, gz_3⟩ : ∃ z : Int32 × Int64, z = (i, h) := ⟨_, rfl⟩
      have ez_3 : z_3 = lpX3_digestOnto_5 P_count fT fF (9) 0 p1 := gz_3.trans hx_2
      have hl : lv_has ls 6 [(5, .int z_3.1), (3, .long z_3.2), (0, .ref aP), (1, .long p1)] := by subst gz_3; exact hl
      have hq : kAt G A s [(aP, .inr (3, [.ref aT, .ref aF, .int P_count])), (aT, .inl (cT, 8, .inl fT)), (aF, .inl (cF, 8, .inl fF))] H locs := by subst gz_3; exact hq
      refine lv_lload_n hx hb dX3_digestOnto_57 rfl (lv_at hl 1 rfl) ?_
      have hf : (z_3.2 : Int64) = fX3_digestOnto p1 P_count fT fF := by
        exact ((congrArg (fun (z_3 : Int32 × Int64) => ((z_3.2) : Int64)) ez_3.symm)).symm
      exact kk_el hx hb hr hlocks hK hq [0, 1, 2] () rfl (by decide) dX3_digestOnto_58 hf
    · skip
      refine lv_iload hx hb dX3_digestOnto_14 (lv_at hl 0 rfl) ?_
      refine lv_bipush (v := 8) hx hb dX3_digestOnto_16 (by decide) ?_
      refine lv_icmp_ge (tgt := 57) hx hb dX3_digestOnto_18 (by decide) (fun c_4 => ?_) (fun c_4 => ?_)
      · skip
        have hx_5 : ((i, h) : Int32 × Int64) = lpX3_digestOnto_5 P_count fT fF (9) 0 p1 := (hrel.trans ((if_neg c_1).trans ((if_pos c_4)))).symm
        obtain ⟨z_6, gz_6⟩ : ∃ z : Int32 × Int64, z = (i, h) := ⟨_, rfl⟩
        have ez_6 : z_6 = lpX3_digestOnto_5 P_count fT fF (9) 0 p1 := gz_6.trans hx_5
        have hl : lv_has ls 6 [(5, .int z_6.1), (3, .long z_6.2), (0, .ref aP), (1, .long p1)] := by subst gz_6; exact hl
        have hq : kAt G A s [(aP, .inr (3, [.ref aT, .ref aF, .int P_count])), (aT, .inl (cT, 8, .inl fT)), (aF, .inl (cF, 8, .inl fF))] H locs := by subst gz_6; exact hq
        refine lv_lload_n hx hb dX3_digestOnto_57 rfl (lv_at hl 1 rfl) ?_
        have hf : (z_6.2 : Int64) = fX3_digestOnto p1 P_count fT fF := by
          exact ((congrArg (fun (z_6 : Int32 × Int64) => ((z_6.2) : Int64)) ez_6.symm)).symm
        exact kk_el hx hb hr hlocks hK hq [0, 1, 2] () rfl (by decide) dX3_digestOnto_58 hf
      · skip
        have hi := kk_nle (k := 8) rfl c_4
        refine lv_ldc2 hx hb hown lk1_ dX3_digestOnto_21 ?_
        refine lv_lload_n hx hb dX3_digestOnto_24 rfl (lv_at hl 1 rfl) ?_
        refine lv_lmul hx hb dX3_digestOnto_25 ?_
        refine lv_aload_n hx hb dX3_digestOnto_26 rfl (lv_at hl 2 rfl) ?_
        refine kk_get (ci := 3) (v := .ref aT) (C := RX3) (T := TX3) (N := 3) hx hb hts iX3 hown hK hq 0 rfl rfl 0 (by decide) lk2_ rfl dX3_digestOnto_27 ?_
        refine lv_iload hx hb dX3_digestOnto_30 (lv_at hl 0 rfl) ?_
        refine kk_iald hx hb hK hq 1 0 rfl rfl i.toNatClampNeg (kk_cl h0) (kk_clt h0 hi) (by decide) dX3_digestOnto_32 ?_
        refine lv_i2l hx hb dX3_digestOnto_33 rfl ?_
        refine lv_ladd hx hb dX3_digestOnto_34 ?_
        refine lv_topl (fun x3_7 ex3_7 => ?_)
        refine lv_lstore_n (lv' := [(3, .long x3_7), (5, .int i), (0, .ref aP), (1, .long p1)]) hx hb dX3_digestOnto_35 rfl hl (by decide) rfl (fun ls hl => ?_)
        refine lv_ldc2 hx hb hown lk1_ dX3_digestOnto_36 ?_
        refine lv_lload_n hx hb dX3_digestOnto_39 rfl (lv_at hl 0 rfl) ?_
        refine lv_lmul hx hb dX3_digestOnto_40 ?_
        refine lv_aload_n hx hb dX3_digestOnto_41 rfl (lv_at hl 2 rfl) ?_
        refine kk_get (ci := 3) (v := .ref aF) (C := RX3) (T := TX3) (N := 3) hx hb hts iX3 hown hK hq 0 rfl rfl 1 (by decide) lk3_ rfl dX3_digestOnto_42 ?_
        refine lv_iload hx hb dX3_digestOnto_45 (lv_at hl 1 rfl) ?_
        refine kk_iald hx hb hK hq 2 1 rfl rfl i.toNatClampNeg (kk_cl h0) (kk_clt h0 hi) (by decide) dX3_digestOnto_47 ?_
        refine lv_i2l hx hb dX3_digestOnto_48 rfl ?_
        refine lv_ladd hx hb dX3_digestOnto_49 ?_
        refine lv_topl (fun x3_8 ex3_8 => ?_)
        refine lv_lstore_n (lv' := [(3, .long x3_8), (5, .int i), (0, .ref aP), (1, .long p1)]) hx hb dX3_digestOnto_50 rfl hl (by decide) rfl (fun ls hl => ?_)
        refine lv_iinc (v := i + 1) (lv' := [(5, .int (i + 1)), (3, .long x3_8), (0, .ref aP), (1, .long p1)]) hx hb dX3_digestOnto_51 hl (k := 1) rfl rfl (by decide) rfl (fun ls hl => ?_)
        refine lv_goto (tgt := 5) hx hb dX3_digestOnto_54 (by decide) ?_
        exact ih (i + 1) x3_8 _ _ _ ⟨(hrel.trans ((if_neg c_1).trans ((if_neg c_4).trans ((congrArg (fun (x3_7 : Int64) => ((let x3_4 : Int64 := (31 * x3_7) + ((fF i.toNatClampNeg).toInt64)
    lpX3_digestOnto_5 P_count fT fF N (i + 1) x3_4) : Int32 × Int64)) ex3_7.symm).trans ((congrArg (fun (x3_8 : Int64) => ((lpX3_digestOnto_5 P_count fT fF N (i + 1) x3_8) : Int32 × Int64)) ex3_8.symm)))))), (by have := kk_inc (x := i) (by omega); omega), (by have := kk_inc (x := i) (by omega); omega), (by have := kk_inc (x := i) (by omega); omega), lv_sub hl [0, 1, 2, 3] rfl, hq⟩
def fX3_become (O_count : Int32) (fOT : Nat → Int32) (fOF : Nat → Int32) : Int32 × (Nat → Int32) × (Nat → Int32) :=
  (O_count, fOT, fOF)

set_option maxHeartbeats 4000000 in
set_option maxRecDepth 100000 in
theorem c_X3_become (l : Launch) (G : va_G) (aP aT aF aO aOT aOF : Nat) (cT cF cOT cOF : ClassId) (P_count : Int32) (fT : Nat → Int32) (fF : Nat → Int32) (O_count : Int32) (fOT : Nat → Int32) (fOF : Nat → Int32) : kCv l yX3_become (Cond.code yX3_become cX3_become 2 none :: wsL_law) ({ frames := 1, cells := 0, slots := 0, locals := 60 }) G [(cT, .int), (cF, .int), (cOT, .int), (cOF, .int)] [.ref aP, .ref aO] [(aP, .inr (3, [.ref aT, .ref aF, .int P_count])), (aT, .inl (cT, 8, .inl fT)), (aF, .inl (cF, 8, .inl fF)), (aO, .inr (3, [.ref aOT, .ref aOF, .int O_count])), (aOT, .inl (cOT, 8, .inl fOT)), (aOF, .inl (cOF, 8, .inl fOF))] (fun (u : Int32 × (Nat → Int32) × (Nat → Int32)) => u = fX3_become O_count fOT fOF) (fun (u : Int32 × (Nat → Int32) × (Nat → Int32)) => [(aP, .inr (3, [.ref aT, .ref aF, .int u.1])), (aT, .inl (cT, 8, .inl u.2.1)), (aF, .inl (cF, 8, .inl u.2.2)), (aO, .inr (3, [.ref aOT, .ref aOF, .int O_count])), (aOT, .inl (cOT, 8, .inl fOT)), (aOF, .inl (cOF, 8, .inl fOF))]) := by
  intro sz
  refine Met.ofW (cc := cX3_become) (maxL := 2) (ret := none) (by decide) rfl ?_
  intro p e s m args below meth c s₁ B hml hv
  obtain ⟨rfl, hv⟩ := hv
  obtain ⟨rfl, hK, hq, hA⟩ := kk_begin hv
  have hx := B.exec
  have hb := B.bytes
  have hr := B.returns
  have hts := atoms_spec (ws := (Cond.code yX3_become cX3_become 2 none :: wsL_law)) B.pre
  have hown : s.vm.findClass RX3 = some m.cls := findClass_of_methodNamed B.named
  have hlocks := B.notSynchronized
  have hsb : ∀ w ∈ wsL_law, w ∈ (Cond.code yX3_become cX3_become 2 none :: wsL_law) := fun _ h => List.mem_cons_of_mem _ h
  generalize va_A [(aP, .inr (3, [.ref aT, .ref aF, .int P_count])), (aT, .inl (cT, 8, .inl fT)), (aF, .inl (cF, 8, .inl fF)), (aO, .inr (3, [.ref aOT, .ref aOF, .int O_count])), (aOT, .inl (cOT, 8, .inl fOT)), (aOF, .inl (cOF, 8, .inl fOF))] s.heap.size = A at hq hA ⊢
  have iX3 : ∀ w ∈ u_ws RX3 TX3 3, w ∈ (Cond.code yX3_become cX3_become 2 none :: wsL_law) := fun w h => hsb w (bin_X3 w h)
  have lk0_ := hts _ (hsb _ wd_72)
  have lk1_ := hts _ (hsb _ wd_806)
  have lk2_ := hts _ (hsb _ wd_697)
  have lk3_ := hts _ (hsb _ wd_698)
  have lk4_ := hts _ (hsb _ wd_699)
  have lk5_ := hts _ (hsb _ wd_73)
  have lk6_ := hts _ (hsb _ wd_74)
  have hl := lv_entry ([.ref aP, .ref aO]) (n := 2) (Nat.le_of_ble_eq_true rfl)
  rw [lg_entry_eq]
  generalize (lg_sl ([.ref aP, .ref aO]) ++ List.replicate (2 - (lg_sl ([.ref aP, .ref aO])).length) Slot.unset).toArray = ls at hl ⊢
  have hl : lv_has ls 2 [(0, .ref aP), (1, .ref aO)] := hl
  refine lv_aload_n hx hb dX3_become_0 rfl (lv_at hl 1 rfl) ?_
  refine kk_get (ci := 3) (v := .ref aOT) (C := RX3) (T := TX3) (N := 3) hx hb hts iX3 hown hK hq 3 rfl rfl 0 (by decide) lk0_ rfl dX3_become_1 ?_
  refine lv_iconst (v := 0) hx hb dX3_become_4 (by decide) ?_
  refine lv_aload_n hx hb dX3_become_5 rfl (lv_at hl 0 rfl) ?_
  refine kk_get (ci := 3) (v := .ref aT) (C := RX3) (T := TX3) (N := 3) hx hb hts iX3 hown hK hq 0 rfl rfl 0 (by decide) lk0_ rfl dX3_become_6 ?_
  refine lv_iconst (v := 0) hx hb dX3_become_9 (by decide) ?_
  refine lv_bipush (v := 8) hx hb dX3_become_10 (by decide) ?_
  refine kk_copyi (ws' := [(aP, .inr (3, [.ref aT, .ref aF, .int P_count])), (aT, .inl (cT, 8, .inl fOT)), (aF, .inl (cF, 8, .inl fF)), (aO, .inr (3, [.ref aOT, .ref aOF, .int O_count])), (aOT, .inl (cOT, 8, .inl fOT)), (aOF, .inl (cOF, 8, .inl fOF))]) (N := 8) hx hb (by rw [hml]; exact hl.1.symm) hown lk1_ lk2_ lk3_ lk4_ hK hq 4 1 2 0 rfl rfl rfl rfl (by decide) (by decide) (Nat.le_of_ble_eq_true rfl) (Nat.le_of_ble_eq_true rfl) dX3_become_12 rfl (fun H locs hq => ?_)
  refine lv_aload_n hx hb dX3_become_15 rfl (lv_at hl 1 rfl) ?_
  refine kk_get (ci := 3) (v := .ref aOF) (C := RX3) (T := TX3) (N := 3) hx hb hts iX3 hown hK hq 3 rfl rfl 1 (by decide) lk5_ rfl dX3_become_16 ?_
  refine lv_iconst (v := 0) hx hb dX3_become_19 (by decide) ?_
  refine lv_aload_n hx hb dX3_become_20 rfl (lv_at hl 0 rfl) ?_
  refine kk_get (ci := 3) (v := .ref aF) (C := RX3) (T := TX3) (N := 3) hx hb hts iX3 hown hK hq 0 rfl rfl 1 (by decide) lk5_ rfl dX3_become_21 ?_
  refine lv_iconst (v := 0) hx hb dX3_become_24 (by decide) ?_
  refine lv_bipush (v := 8) hx hb dX3_become_25 (by decide) ?_
  refine kk_copyi (ws' := [(aP, .inr (3, [.ref aT, .ref aF, .int P_count])), (aT, .inl (cT, 8, .inl fOT)), (aF, .inl (cF, 8, .inl fOF)), (aO, .inr (3, [.ref aOT, .ref aOF, .int O_count])), (aOT, .inl (cOT, 8, .inl fOT)), (aOF, .inl (cOF, 8, .inl fOF))]) (N := 8) hx hb (by rw [hml]; exact hl.1.symm) hown lk1_ lk2_ lk3_ lk4_ hK hq 5 2 3 1 rfl rfl rfl rfl (by decide) (by decide) (Nat.le_of_ble_eq_true rfl) (Nat.le_of_ble_eq_true rfl) dX3_become_27 rfl (fun H locs hq => ?_)
  refine lv_aload_n hx hb dX3_become_30 rfl (lv_at hl 0 rfl) ?_
  refine lv_aload_n hx hb dX3_become_31 rfl (lv_at hl 1 rfl) ?_
  refine kk_get (ci := 3) (v := .int O_count) (C := RX3) (T := TX3) (N := 3) hx hb hts iX3 hown hK hq 3 rfl rfl 2 (by decide) lk6_ rfl dX3_become_32 ?_
  refine kk_put (ws' := [(aP, .inr (3, [.ref aT, .ref aF, .int O_count])), (aT, .inl (cT, 8, .inl fOT)), (aF, .inl (cF, 8, .inl fOF)), (aO, .inr (3, [.ref aOT, .ref aOF, .int O_count])), (aOT, .inl (cOT, 8, .inl fOT)), (aOF, .inl (cOF, 8, .inl fOF))]) (ci := 3) (v := .int O_count) (C := RX3) (T := TX3) (N := 3) hx hb hts iX3 tyX3_ok nmX3 hown hK hq 0 rfl rfl 2 (by decide) lk6_ rfl rfl rfl (Nat.le_of_ble_eq_true rfl) dX3_become_35 rfl (fun H locs hq => ?_)
  have hf : ((O_count, fOT, fOF) : Int32 × (Nat → Int32) × (Nat → Int32)) = fX3_become O_count fOT fOF := by
    exact rfl
  exact kk_ev hx hb hr hlocks hK hq [0, 1, 2, 3, 4, 5] (O_count, fOT, fOF) rfl (by decide) dX3_become_38 hf
