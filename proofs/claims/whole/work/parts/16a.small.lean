theorem text_add {c n : Int32} {f : Nat → Int32} (h0 : 0 ≤ n.toInt) (h1 : n.toInt ≤ 60) : 0 ≤ (fX5_add c n f).1.toInt ∧ (fX5_add c n f).1.toInt ≤ 60 := by
  unfold fX5_add
  dsimp only
  split
  · exact ⟨h0, h1⟩
  · rename_i h
    have h2 := kk_nle (k := 60) rfl h
    have := kk_inc (x := n) (by omega)
    omega
theorem push_add {t f n : Int32} {ft ff : Nat → Int32} (h0 : 0 ≤ n.toInt) (h1 : n.toInt ≤ 8) : 0 ≤ (fX3_add t f n ft ff).1.toInt ∧ (fX3_add t f n ft ff).1.toInt ≤ 8 := by
  unfold fX3_add
  dsimp only
  split
  · exact ⟨h0, h1⟩
  · rename_i h
    have h2 := kk_nle (k := 8) rfl h
    have := kk_inc (x := n) (by omega)
    omega
theorem hd_X2_readAll : yX2_readAll.cls = RX2 ∧ yX2_readAll.cls ≠ "java/lang/invoke/MethodHandle" ∧ yX2_readAll.cls ≠ "java/lang/invoke/VarHandle" ∧ (parseMethodDescriptor yX2_readAll.desc).map (fun d => d.parameters.length) = some 0 := by decide +kernel
theorem hd_X5_add : yX5_add.cls = RX5 ∧ yX5_add.cls ≠ "java/lang/invoke/MethodHandle" ∧ yX5_add.cls ≠ "java/lang/invoke/VarHandle" ∧ (parseMethodDescriptor yX5_add.desc).map (fun d => d.parameters.length) = some 1 := by decide +kernel
theorem hd_X7_refusedAsFull : yX7_refusedAsFull.cls = RX7 ∧ yX7_refusedAsFull.cls ≠ "java/lang/invoke/MethodHandle" ∧ yX7_refusedAsFull.cls ≠ "java/lang/invoke/VarHandle" ∧ (parseMethodDescriptor yX7_refusedAsFull.desc).map (fun d => d.parameters.length) = some 0 := by decide +kernel
def fX7_write (p1 : Int32) (Y_bads : Int32) (Y_fulls : Int32) (R_waitingCount : Int32) (R_at : Int32) (fRW : Nat → Int32) (T_length : Int32) (fTS : Nat → Int32) (L_count : Int32) (L_fault : Int32) (fLP : Nat → Int32) : Int32 × Int32 × Int32 × Int32 × Int32 × (Nat → Int32) × Int32 × (Nat → Int32) × Int32 × Int32 × (Nat → Int32) :=
  let r_2 : Int32 := fX7_within p1 0 127
  if r_2 = 0 then (
    let r_16 : Int32 := (fX7_refusedAsBad (-2) Y_bads).1
    let u_15 : Int32 := (fX7_refusedAsBad (-2) Y_bads).2
    (r_16, u_15, Y_fulls, R_waitingCount, R_at, fRW, T_length, fTS, L_count, L_fault, fLP))
  else (
    if T_length < 60 then (
      let u_6 : Int32 × (Nat → Int32) := fX5_add p1 T_length fTS
      let u_9 : Int32 × Int32 × (Nat → Int32) × Int32 × Int32 × (Nat → Int32) := fX2_readAll fRW u_6.1 u_6.2 fLP
      (u_6.1, Y_bads, Y_fulls, u_9.1, u_9.2.1, u_9.2.2.1, u_6.1, u_6.2, u_9.2.2.2.1, u_9.2.2.2.2.1, u_9.2.2.2.2.2))
    else (
      let r_13 : Int32 := (fX7_refusedAsFull Y_fulls).1
      let u_12 : Int32 := (fX7_refusedAsFull Y_fulls).2
      (r_13, Y_bads, u_12, R_waitingCount, R_at, fRW, T_length, fTS, L_count, L_fault, fLP)))

set_option maxHeartbeats 4000000 in
set_option maxRecDepth 100000 in
theorem c_X7_write (l : Launch) (G : va_G) (aY aS aR aRW aT aTS aL aLP rY_images rY_kept rY_trial rY_stages rY_row rY_bestRow rS_numbers rS_pushes rS_child rS_turns rL_values : Nat) (cRW cTS cLP : ClassId) (p1 : Int32) (Y_bestPeak : Int32) (Y_bads : Int32) (Y_noes : Int32) (Y_fulls : Int32) (R_waitingCount : Int32) (R_at : Int32) (fRW : Nat → Int32) (T_length : Int32) (fTS : Nat → Int32) (L_count : Int32) (L_fault : Int32) (L_top : Int32) (fLP : Nat → Int32) (t0 : 0 ≤ T_length.toInt) (t1 : T_length.toInt ≤ 60) (k0 : 0 ≤ L_count.toInt) (k1 : L_count.toInt ≤ 60) : kCi l yX7_write (Cond.code yX7_write cX7_write 2 (some .int) :: wsL_law) ({ frames := 92, cells := 0, slots := 0, locals := 2031 }) G [(cRW, .int), (cTS, .int), (cLP, .int)] [.ref aY, .int p1] [(aY, .inr (7, [.ref aS, .ref rY_images, .ref rY_kept, .ref aL, .ref aR, .ref rY_trial, .ref rY_stages, .ref rY_row, .ref rY_bestRow, .int Y_bestPeak, .int Y_bads, .int Y_noes, .int Y_fulls])), (aS, .inr (4, [.ref rS_numbers, .ref aT, .ref rS_pushes, .ref rS_child, .ref rS_turns])), (aR, .inr (2, [.ref aRW, .int R_waitingCount, .ref aT, .ref aL, .int R_at])), (aRW, .inl (cRW, 60, .inl fRW)), (aT, .inr (5, [.ref aTS, .int T_length])), (aTS, .inl (cTS, 60, .inl fTS)), (aL, .inr (1, [.ref aLP, .int L_count, .int L_fault, .ref rL_values, .int L_top])), (aLP, .inl (cLP, 60, .inl fLP))] (fun (r : Int32) (u : Int32 × Int32 × Int32 × Int32 × (Nat → Int32) × Int32 × (Nat → Int32) × Int32 × Int32 × (Nat → Int32)) => r = (fX7_write p1 Y_bads Y_fulls R_waitingCount R_at fRW T_length fTS L_count L_fault fLP).1 ∧ u = (fX7_write p1 Y_bads Y_fulls R_waitingCount R_at fRW T_length fTS L_count L_fault fLP).2 ∧ (0 ≤ u.2.2.2.2.2.1.toInt) ∧ (u.2.2.2.2.2.1.toInt ≤ 60) ∧ (0 ≤ u.2.2.2.2.2.2.2.1.toInt) ∧ (u.2.2.2.2.2.2.2.1.toInt ≤ 60)) (fun (u : Int32 × Int32 × Int32 × Int32 × (Nat → Int32) × Int32 × (Nat → Int32) × Int32 × Int32 × (Nat → Int32)) => [(aY, .inr (7, [.ref aS, .ref rY_images, .ref rY_kept, .ref aL, .ref aR, .ref rY_trial, .ref rY_stages, .ref rY_row, .ref rY_bestRow, .int Y_bestPeak, .int u.1, .int Y_noes, .int u.2.1])), (aS, .inr (4, [.ref rS_numbers, .ref aT, .ref rS_pushes, .ref rS_child, .ref rS_turns])), (aR, .inr (2, [.ref aRW, .int u.2.2.1, .ref aT, .ref aL, .int u.2.2.2.1])), (aRW, .inl (cRW, 60, .inl u.2.2.2.2.1)), (aT, .inr (5, [.ref aTS, .int u.2.2.2.2.2.1])), (aTS, .inl (cTS, 60, .inl u.2.2.2.2.2.2.1)), (aL, .inr (1, [.ref aLP, .int u.2.2.2.2.2.2.2.1, .int u.2.2.2.2.2.2.2.2.1, .ref rL_values, .int L_top])), (aLP, .inl (cLP, 60, .inl u.2.2.2.2.2.2.2.2.2))]) := by
  intro sz
  refine Met.ofW (cc := cX7_write) (maxL := 2) (ret := (some .int)) (by decide) rfl ?_
  intro p e s m args below meth c s₁ B hml hv
  obtain ⟨rfl, hv⟩ := hv
  obtain ⟨rfl, hK, hq, hA⟩ := kk_begin hv
  have hx := B.exec
  have hb := B.bytes
  have hr := B.returns
  have hts := atoms_spec (ws := (Cond.code yX7_write cX7_write 2 (some .int) :: wsL_law)) B.pre
  have hown : s.vm.findClass RX7 = some m.cls := findClass_of_methodNamed B.named
  have hlocks := B.notSynchronized
  have hsb : ∀ w ∈ wsL_law, w ∈ (Cond.code yX7_write cX7_write 2 (some .int) :: wsL_law) := fun _ h => List.mem_cons_of_mem _ h
  generalize va_A [(aY, .inr (7, [.ref aS, .ref rY_images, .ref rY_kept, .ref aL, .ref aR, .ref rY_trial, .ref rY_stages, .ref rY_row, .ref rY_bestRow, .int Y_bestPeak, .int Y_bads, .int Y_noes, .int Y_fulls])), (aS, .inr (4, [.ref rS_numbers, .ref aT, .ref rS_pushes, .ref rS_child, .ref rS_turns])), (aR, .inr (2, [.ref aRW, .int R_waitingCount, .ref aT, .ref aL, .int R_at])), (aRW, .inl (cRW, 60, .inl fRW)), (aT, .inr (5, [.ref aTS, .int T_length])), (aTS, .inl (cTS, 60, .inl fTS)), (aL, .inr (1, [.ref aLP, .int L_count, .int L_fault, .ref rL_values, .int L_top])), (aLP, .inl (cLP, 60, .inl fLP))] s.heap.size = A at hq hA ⊢
  have iX4 : ∀ w ∈ u_ws RX4 TX4 5, w ∈ (Cond.code yX7_write cX7_write 2 (some .int) :: wsL_law) := fun w h => hsb w (bin_X4 w h)
  have iX5 : ∀ w ∈ u_ws RX5 TX5 2, w ∈ (Cond.code yX7_write cX7_write 2 (some .int) :: wsL_law) := fun w h => hsb w (bin_X5 w h)
  have iX7 : ∀ w ∈ u_ws RX7 TX7 13, w ∈ (Cond.code yX7_write cX7_write 2 (some .int) :: wsL_law) := fun w h => hsb w (bin_X7 w h)
  have lk0_ := hts _ (hsb _ wd_15)
  have lk1_ := hts _ (hsb _ wd_26)
  have lk2_ := hts _ (hsb _ wd_171)
  have lk3_ := hts _ (hsb _ wd_27)
  have hl := lv_entry ([.ref aY, .int p1]) (n := 2) (Nat.le_of_ble_eq_true rfl)
  rw [lg_entry_eq]
  generalize (lg_sl ([.ref aY, .int p1]) ++ List.replicate (2 - (lg_sl ([.ref aY, .int p1])).length) Slot.unset).toArray = ls at hl ⊢
  have hl : lv_has ls 2 [(0, .ref aY), (1, .int p1)] := hl
  refine lv_iload_n hx hb dX7_write_0 rfl (lv_at hl 1 rfl) ?_
  refine lv_iconst (v := 0) hx hb dX7_write_1 (by decide) ?_
  refine lv_bipush (v := 127) hx hb dX7_write_2 (by decide) ?_
  refine kk_Si (As := [.int p1, .int 0, .int 127]) (rest := []) (wr := [(aY, .inr (7, [.ref aS, .ref rY_images, .ref rY_kept, .ref aL, .ref aR, .ref rY_trial, .ref rY_stages, .ref rY_row, .ref rY_bestRow, .int Y_bestPeak, .int Y_bads, .int Y_noes, .int Y_fulls])), (aS, .inr (4, [.ref rS_numbers, .ref aT, .ref rS_pushes, .ref rS_child, .ref rS_turns])), (aR, .inr (2, [.ref aRW, .int R_waitingCount, .ref aT, .ref aL, .int R_at])), (aRW, .inl (cRW, 60, .inl fRW)), (aT, .inr (5, [.ref aTS, .int T_length])), (aTS, .inl (cTS, 60, .inl fTS)), (aL, .inr (1, [.ref aLP, .int L_count, .int L_fault, .ref rL_values, .int L_top])), (aLP, .inl (cLP, 60, .inl fLP))]) ⟨hx, hb, hml, hown, hts⟩ (c_X7_within l G p1 0 127) (kk_cwS 3 hts hsb wd_136 wd_137 wd_2 wd_138 rfl rfl hd_X7_within ⟨Nat.le_of_ble_eq_true rfl, Nat.le_of_ble_eq_true rfl⟩) hA hK hq [] [0, 1, 2, 3, 4, 5, 6, 7] [] rfl rfl rfl (by decide) (by decide) (by decide) rfl hl.1 rfl (Nat.le_of_ble_eq_true rfl) dX7_write_4 ⟨Nat.zero_le _, Nat.zero_le _⟩ (fun r_2 u_1 H locs h_3 hq => ?_)
  obtain ⟨er_2, zr_2⟩ := h_3
  have hq : kAt G A s [(aY, .inr (7, [.ref aS, .ref rY_images, .ref rY_kept, .ref aL, .ref aR, .ref rY_trial, .ref rY_stages, .ref rY_row, .ref rY_bestRow, .int Y_bestPeak, .int Y_bads, .int Y_noes, .int Y_fulls])), (aS, .inr (4, [.ref rS_numbers, .ref aT, .ref rS_pushes, .ref rS_child, .ref rS_turns])), (aR, .inr (2, [.ref aRW, .int R_waitingCount, .ref aT, .ref aL, .int R_at])), (aRW, .inl (cRW, 60, .inl fRW)), (aT, .inr (5, [.ref aTS, .int T_length])), (aTS, .inl (cTS, 60, .inl fTS)), (aL, .inr (1, [.ref aLP, .int L_count, .int L_fault, .ref rL_values, .int L_top])), (aLP, .inl (cLP, 60, .inl fLP))] H locs := hq
  refine lv_if_ne (tgt := 17) hx hb dX7_write_7 (by decide) (fun c_4 => ?_) (fun c_4 => ?_)
  · skip
    refine lv_aload_n hx hb dX7_write_17 rfl (lv_at hl 0 rfl) ?_
    refine kk_get (ci := 7) (v := .ref aS) (C := RX7) (T := TX7) (N := 13) hx hb hts iX7 hown hK hq 0 rfl rfl 0 (by decide) lk0_ rfl dX7_write_18 ?_
    refine kk_get (ci := 4) (v := .ref aT) (C := RX4) (T := TX4) (N := 5) hx hb hts iX4 hown hK hq 1 rfl rfl 1 (by decide) lk1_ rfl dX7_write_21 ?_
    refine kk_get (ci := 5) (v := .int T_length) (C := RX5) (T := TX5) (N := 2) hx hb hts iX5 hown hK hq 4 rfl rfl 1 (by decide) lk2_ rfl dX7_write_24 ?_
    refine lv_bipush (v := 60) hx hb dX7_write_27 (by decide) ?_
    refine lv_icmp_lt (tgt := 37) hx hb dX7_write_29 (by decide) (fun c_5 => ?_) (fun c_5 => ?_)
    · skip
      refine lv_aload_n hx hb dX7_write_37 rfl (lv_at hl 0 rfl) ?_
      refine kk_get (ci := 7) (v := .ref aS) (C := RX7) (T := TX7) (N := 13) hx hb hts iX7 hown hK hq 0 rfl rfl 0 (by decide) lk0_ rfl dX7_write_38 ?_
      refine kk_get (ci := 4) (v := .ref aT) (C := RX4) (T := TX4) (N := 5) hx hb hts iX4 hown hK hq 1 rfl rfl 1 (by decide) lk1_ rfl dX7_write_41 ?_
      refine lv_iload_n hx hb dX7_write_44 rfl (lv_at hl 1 rfl) ?_
      refine kk_Vv (As := [.int p1]) (rest := []) (wr := [(aY, .inr (7, [.ref aS, .ref rY_images, .ref rY_kept, .ref aL, .ref aR, .ref rY_trial, .ref rY_stages, .ref rY_row, .ref rY_bestRow, .int Y_bestPeak, .int Y_bads, .int Y_noes, .int Y_fulls])), (aS, .inr (4, [.ref rS_numbers, .ref aT, .ref rS_pushes, .ref rS_child, .ref rS_turns])), (aR, .inr (2, [.ref aRW, .int R_waitingCount, .ref aT, .ref aL, .int R_at])), (aRW, .inl (cRW, 60, .inl fRW)), (aL, .inr (1, [.ref aLP, .int L_count, .int L_fault, .ref rL_values, .int L_top])), (aLP, .inl (cLP, 60, .inl fLP))]) ⟨hx, hb, hml, hown, hts⟩ (c_X5_add l G aT aTS cTS p1 T_length fTS (by assumption)) (kk_cwV 1 hts hsb wd_176 wd_177 wd_178 wd_52 wd_179 rfl rfl hd_X5_add ⟨Nat.le_of_ble_eq_true rfl, Nat.le_of_ble_eq_true rfl⟩) hA hK hq [4, 5] [0, 1, 2, 3, 6, 7] [1] rfl rfl rfl (by decide) (by decide) (by decide) 0 5 rfl rfl rfl rfl hl.1 rfl (Nat.le_of_ble_eq_true rfl) dX7_write_45 ⟨Nat.zero_le _, Nat.zero_le _⟩ (fun u_6 H locs h_8 hq => ?_)
      have eu_6 := h_8
      have hq : kAt G A s [(aY, .inr (7, [.ref aS, .ref rY_images, .ref rY_kept, .ref aL, .ref aR, .ref rY_trial, .ref rY_stages, .ref rY_row, .ref rY_bestRow, .int Y_bestPeak, .int Y_bads, .int Y_noes, .int Y_fulls])), (aS, .inr (4, [.ref rS_numbers, .ref aT, .ref rS_pushes, .ref rS_child, .ref rS_turns])), (aR, .inr (2, [.ref aRW, .int R_waitingCount, .ref aT, .ref aL, .int R_at])), (aRW, .inl (cRW, 60, .inl fRW)), (aL, .inr (1, [.ref aLP, .int L_count, .int L_fault, .ref rL_values, .int L_top])), (aLP, .inl (cLP, 60, .inl fLP)), (aT, .inr (5, [.ref aTS, .int u_6.1])), (aTS, .inl (cTS, 60, .inl u_6.2))] H locs := hq
      have t0u_6 : 0 ≤ u_6.1.toInt := by rw [eu_6]; exact (text_add t0 t1).1
      have t1u_6 : u_6.1.toInt ≤ 60 := by rw [eu_6]; exact (text_add t0 t1).2
      refine lv_aload_n hx hb dX7_write_48 rfl (lv_at hl 0 rfl) ?_
      refine kk_get (ci := 7) (v := .ref aR) (C := RX7) (T := TX7) (N := 13) hx hb hts iX7 hown hK hq 0 rfl rfl 4 (by decide) lk3_ rfl dX7_write_49 ?_
      refine kk_Vv (As := []) (rest := []) (wr := [(aY, .inr (7, [.ref aS, .ref rY_images, .ref rY_kept, .ref aL, .ref aR, .ref rY_trial, .ref rY_stages, .ref rY_row, .ref rY_bestRow, .int Y_bestPeak, .int Y_bads, .int Y_noes, .int Y_fulls])), (aS, .inr (4, [.ref rS_numbers, .ref aT, .ref rS_pushes, .ref rS_child, .ref rS_turns]))]) ⟨hx, hb, hml, hown, hts⟩ (c_X2_readAll l G aR aRW aT aTS aL aLP rL_values cRW cTS cLP R_waitingCount R_at fRW u_6.1 u_6.2 L_count L_fault L_top fLP (by assumption)) (kk_cwV 0 hts hsb wd_180 wd_181 wd_182 wd_25 wd_183 rfl rfl hd_X2_readAll ⟨Nat.le_of_ble_eq_true rfl, Nat.le_of_ble_eq_true rfl⟩) hA hK hq [2, 3, 6, 7, 4, 5] [0, 1] [0, 1, 2] rfl rfl rfl (by decide) (by decide) (by decide) 0 2 rfl rfl rfl rfl hl.1 rfl (Nat.le_of_ble_eq_true rfl) dX7_write_52 ⟨Nat.zero_le _, Nat.zero_le _⟩ (fun u_9 H locs h_11 hq => ?_)
      obtain ⟨eu_9, k0_u_9, k1_u_9⟩ := h_11
      have hq : kAt G A s [(aY, .inr (7, [.ref aS, .ref rY_images, .ref rY_kept, .ref aL, .ref aR, .ref rY_trial, .ref rY_stages, .ref rY_row, .ref rY_bestRow, .int Y_bestPeak, .int Y_bads, .int Y_noes, .int Y_fulls])), (aS, .inr (4, [.ref rS_numbers, .ref aT, .ref rS_pushes, .ref rS_child, .ref rS_turns])), (aR, .inr (2, [.ref aRW, .int u_9.1, .ref aT, .ref aL, .int u_9.2.1])), (aRW, .inl (cRW, 60, .inl u_9.2.2.1)), (aT, .inr (5, [.ref aTS, .int u_6.1])), (aTS, .inl (cTS, 60, .inl u_6.2)), (aL, .inr (1, [.ref aLP, .int u_9.2.2.2.1, .int u_9.2.2.2.2.1, .ref rL_values, .int L_top])), (aLP, .inl (cLP, 60, .inl u_9.2.2.2.2.2))] H locs := hq
      refine lv_aload_n hx hb dX7_write_55 rfl (lv_at hl 0 rfl) ?_
      refine kk_get (ci := 7) (v := .ref aS) (C := RX7) (T := TX7) (N := 13) hx hb hts iX7 hown hK hq 0 rfl rfl 0 (by decide) lk0_ rfl dX7_write_56 ?_
      refine kk_get (ci := 4) (v := .ref aT) (C := RX4) (T := TX4) (N := 5) hx hb hts iX4 hown hK hq 1 rfl rfl 1 (by decide) lk1_ rfl dX7_write_59 ?_
      refine kk_get (ci := 5) (v := .int u_6.1) (C := RX5) (T := TX5) (N := 2) hx hb hts iX5 hown hK hq 4 rfl rfl 1 (by decide) lk2_ rfl dX7_write_62 ?_
      have hf : ((u_6.1, Y_bads, Y_fulls, u_9.1, u_9.2.1, u_9.2.2.1, u_6.1, u_6.2, u_9.2.2.2.1, u_9.2.2.2.2.1, u_9.2.2.2.2.2) : Int32 × Int32 × Int32 × Int32 × Int32 × (Nat → Int32) × Int32 × (Nat → Int32) × Int32 × Int32 × (Nat → Int32)) = fX7_write p1 Y_bads Y_fulls R_waitingCount R_at fRW T_length fTS L_count L_fault fLP := by
        exact ((congrArg (fun (r_2 : Int32) => ((if r_2 = 0 then (
    let r_16 : Int32 := (fX7_refusedAsBad (-2) Y_bads).1
    let u_15 : Int32 := (fX7_refusedAsBad (-2) Y_bads).2
    (r_16, u_15, Y_fulls, R_waitingCount, R_at, fRW, T_length, fTS, L_count, L_fault, fLP))
  else (
    if T_length < 60 then (
      let u_6 : Int32 × (Nat → Int32) := fX5_add p1 T_length fTS
      let u_9 : Int32 × Int32 × (Nat → Int32) × Int32 × Int32 × (Nat → Int32) := fX2_readAll fRW u_6.1 u_6.2 fLP
      (u_6.1, Y_bads, Y_fulls, u_9.1, u_9.2.1, u_9.2.2.1, u_6.1, u_6.2, u_9.2.2.2.1, u_9.2.2.2.2.1, u_9.2.2.2.2.2))
    else (
      let r_13 : Int32 := (fX7_refusedAsFull Y_fulls).1
      let u_12 : Int32 := (fX7_refusedAsFull Y_fulls).2
      (r_13, Y_bads, u_12, R_waitingCount, R_at, fRW, T_length, fTS, L_count, L_fault, fLP)))) : Int32 × Int32 × Int32 × Int32 × Int32 × (Nat → Int32) × Int32 × (Nat → Int32) × Int32 × Int32 × (Nat → Int32))) er_2.symm).trans ((if_neg c_4).trans ((if_pos c_5).trans ((congrArg (fun (u_6 : Int32 × (Nat → Int32)) => ((let u_9 : Int32 × Int32 × (Nat → Int32) × Int32 × Int32 × (Nat → Int32) := fX2_readAll fRW u_6.1 u_6.2 fLP
  (u_6.1, Y_bads, Y_fulls, u_9.1, u_9.2.1, u_9.2.2.1, u_6.1, u_6.2, u_9.2.2.2.1, u_9.2.2.2.2.1, u_9.2.2.2.2.2)) : Int32 × Int32 × Int32 × Int32 × Int32 × (Nat → Int32) × Int32 × (Nat → Int32) × Int32 × Int32 × (Nat → Int32))) eu_6.symm).trans ((congrArg (fun (u_9 : Int32 × Int32 × (Nat → Int32) × Int32 × Int32 × (Nat → Int32)) => (((u_6.1, Y_bads, Y_fulls, u_9.1, u_9.2.1, u_9.2.2.1, u_6.1, u_6.2, u_9.2.2.2.1, u_9.2.2.2.2.1, u_9.2.2.2.2.2)) : Int32 × Int32 × Int32 × Int32 × Int32 × (Nat → Int32) × Int32 × (Nat → Int32) × Int32 × Int32 × (Nat → Int32))) eu_9.symm)))))).symm
      have hf1 := congrArg Prod.fst hf
      have hf2 := congrArg Prod.snd hf
      have en_0 : 0 ≤ u_6.1.toInt := by first | assumption | omega
      have en_1 : u_6.1.toInt ≤ 60 := by first | assumption | omega
      have en_2 : 0 ≤ u_9.2.2.2.1.toInt := by first | assumption | omega
      have en_3 : u_9.2.2.2.1.toInt ≤ 60 := by first | assumption | omega
      exact kk_ei hx hb hr hlocks hK hq [0, 1, 2, 3, 4, 5, 6, 7] (Y_bads, Y_fulls, u_9.1, u_9.2.1, u_9.2.2.1, u_6.1, u_6.2, u_9.2.2.2.1, u_9.2.2.2.2.1, u_9.2.2.2.2.2) rfl (by decide) dX7_write_65 ⟨hf1, hf2, en_0, en_1, en_2, en_3⟩
    · skip
      refine lv_aload_n hx hb dX7_write_32 rfl (lv_at hl 0 rfl) ?_
      refine kk_Vi (As := []) (rest := []) (wr := [(aS, .inr (4, [.ref rS_numbers, .ref aT, .ref rS_pushes, .ref rS_child, .ref rS_turns])), (aR, .inr (2, [.ref aRW, .int R_waitingCount, .ref aT, .ref aL, .int R_at])), (aRW, .inl (cRW, 60, .inl fRW)), (aT, .inr (5, [.ref aTS, .int T_length])), (aTS, .inl (cTS, 60, .inl fTS)), (aL, .inr (1, [.ref aLP, .int L_count, .int L_fault, .ref rL_values, .int L_top])), (aLP, .inl (cLP, 60, .inl fLP))]) ⟨hx, hb, hml, hown, hts⟩ (c_X7_refusedAsFull l G aY aS rY_images rY_kept aL aR rY_trial rY_stages rY_row rY_bestRow Y_bestPeak Y_bads Y_noes Y_fulls) (kk_cwV 0 hts hsb wd_172 wd_173 wd_174 wd_2 wd_175 rfl rfl hd_X7_refusedAsFull ⟨Nat.le_of_ble_eq_true rfl, Nat.le_of_ble_eq_true rfl⟩) hA hK hq [0] [1, 2, 3, 4, 5, 6, 7] [] rfl rfl rfl (by decide) (by decide) (by decide) 0 7 rfl rfl rfl rfl hl.1 rfl (Nat.le_of_ble_eq_true rfl) dX7_write_33 ⟨Nat.zero_le _, Nat.zero_le _⟩ (fun r_13 u_12 H locs h_14 hq => ?_)
      obtain ⟨er_13, eu_12⟩ := h_14
      have hq : kAt G A s [(aS, .inr (4, [.ref rS_numbers, .ref aT, .ref rS_pushes, .ref rS_child, .ref rS_turns])), (aR, .inr (2, [.ref aRW, .int R_waitingCount, .ref aT, .ref aL, .int R_at])), (aRW, .inl (cRW, 60, .inl fRW)), (aT, .inr (5, [.ref aTS, .int T_length])), (aTS, .inl (cTS, 60, .inl fTS)), (aL, .inr (1, [.ref aLP, .int L_count, .int L_fault, .ref rL_values, .int L_top])), (aLP, .inl (cLP, 60, .inl fLP)), (aY, .inr (7, [.ref aS, .ref rY_images, .ref rY_kept, .ref aL, .ref aR, .ref rY_trial, .ref rY_stages, .ref rY_row, .ref rY_bestRow, .int Y_bestPeak, .int Y_bads, .int Y_noes, .int u_12]))] H locs := hq
      have hf : ((r_13, Y_bads, u_12, R_waitingCount, R_at, fRW, T_length, fTS, L_count, L_fault, fLP) : Int32 × Int32 × Int32 × Int32 × Int32 × (Nat → Int32) × Int32 × (Nat → Int32) × Int32 × Int32 × (Nat → Int32)) = fX7_write p1 Y_bads Y_fulls R_waitingCount R_at fRW T_length fTS L_count L_fault fLP := by
        exact ((congrArg (fun (r_2 : Int32) => ((if r_2 = 0 then (
    let r_16 : Int32 := (fX7_refusedAsBad (-2) Y_bads).1
    let u_15 : Int32 := (fX7_refusedAsBad (-2) Y_bads).2
    (r_16, u_15, Y_fulls, R_waitingCount, R_at, fRW, T_length, fTS, L_count, L_fault, fLP))
  else (
    if T_length < 60 then (
      let u_6 : Int32 × (Nat → Int32) := fX5_add p1 T_length fTS
      let u_9 : Int32 × Int32 × (Nat → Int32) × Int32 × Int32 × (Nat → Int32) := fX2_readAll fRW u_6.1 u_6.2 fLP
      (u_6.1, Y_bads, Y_fulls, u_9.1, u_9.2.1, u_9.2.2.1, u_6.1, u_6.2, u_9.2.2.2.1, u_9.2.2.2.2.1, u_9.2.2.2.2.2))
    else (
      let r_13 : Int32 := (fX7_refusedAsFull Y_fulls).1
      let u_12 : Int32 := (fX7_refusedAsFull Y_fulls).2
      (r_13, Y_bads, u_12, R_waitingCount, R_at, fRW, T_length, fTS, L_count, L_fault, fLP)))) : Int32 × Int32 × Int32 × Int32 × Int32 × (Nat → Int32) × Int32 × (Nat → Int32) × Int32 × Int32 × (Nat → Int32))) er_2.symm).trans ((if_neg c_4).trans ((if_neg c_5).trans ((congrArg (fun (r_13 : Int32) => ((let u_12 : Int32 := (fX7_refusedAsFull Y_fulls).2
  (r_13, Y_bads, u_12, R_waitingCount, R_at, fRW, T_length, fTS, L_count, L_fault, fLP)) : Int32 × Int32 × Int32 × Int32 × Int32 × (Nat → Int32) × Int32 × (Nat → Int32) × Int32 × Int32 × (Nat → Int32))) er_13.symm).trans ((congrArg (fun (u_12 : Int32) => (((r_13, Y_bads, u_12, R_waitingCount, R_at, fRW, T_length, fTS, L_count, L_fault, fLP)) : Int32 × Int32 × Int32 × Int32 × Int32 × (Nat → Int32) × Int32 × (Nat → Int32) × Int32 × Int32 × (Nat → Int32))) eu_12.symm)))))).symm
      have hf1 := congrArg Prod.fst hf
      have hf2 := congrArg Prod.snd hf
      have en_0 : 0 ≤ T_length.toInt := by first | assumption | omega
      have en_1 : T_length.toInt ≤ 60 := by first | assumption | omega
      have en_2 : 0 ≤ L_count.toInt := by first | assumption | omega
      have en_3 : L_count.toInt ≤ 60 := by first | assumption | omega
      exact kk_ei hx hb hr hlocks hK hq [7, 0, 1, 2, 3, 4, 5, 6] (Y_bads, u_12, R_waitingCount, R_at, fRW, T_length, fTS, L_count, L_fault, fLP) rfl (by decide) dX7_write_36 ⟨hf1, hf2, en_0, en_1, en_2, en_3⟩
  · skip
    refine lv_aload_n hx hb dX7_write_10 rfl (lv_at hl 0 rfl) ?_
    refine lv_bipush (v := -2) hx hb dX7_write_11 (by decide) ?_
    refine kk_Vi (As := [.int (-2)]) (rest := []) (wr := [(aS, .inr (4, [.ref rS_numbers, .ref aT, .ref rS_pushes, .ref rS_child, .ref rS_turns])), (aR, .inr (2, [.ref aRW, .int R_waitingCount, .ref aT, .ref aL, .int R_at])), (aRW, .inl (cRW, 60, .inl fRW)), (aT, .inr (5, [.ref aTS, .int T_length])), (aTS, .inl (cTS, 60, .inl fTS)), (aL, .inr (1, [.ref aLP, .int L_count, .int L_fault, .ref rL_values, .int L_top])), (aLP, .inl (cLP, 60, .inl fLP))]) ⟨hx, hb, hml, hown, hts⟩ (c_X7_refusedAsBad l G aY aS rY_images rY_kept aL aR rY_trial rY_stages rY_row rY_bestRow (-2) Y_bestPeak Y_bads Y_noes Y_fulls) (kk_cwV 1 hts hsb wd_139 wd_140 wd_141 wd_2 wd_142 rfl rfl hd_X7_refusedAsBad ⟨Nat.le_of_ble_eq_true rfl, Nat.le_of_ble_eq_true rfl⟩) hA hK hq [0] [1, 2, 3, 4, 5, 6, 7] [] rfl rfl rfl (by decide) (by decide) (by decide) 0 7 rfl rfl rfl rfl hl.1 rfl (Nat.le_of_ble_eq_true rfl) dX7_write_13 ⟨Nat.zero_le _, Nat.zero_le _⟩ (fun r_16 u_15 H locs h_17 hq => ?_)
    obtain ⟨er_16, eu_15⟩ := h_17
    have hq : kAt G A s [(aS, .inr (4, [.ref rS_numbers, .ref aT, .ref rS_pushes, .ref rS_child, .ref rS_turns])), (aR, .inr (2, [.ref aRW, .int R_waitingCount, .ref aT, .ref aL, .int R_at])), (aRW, .inl (cRW, 60, .inl fRW)), (aT, .inr (5, [.ref aTS, .int T_length])), (aTS, .inl (cTS, 60, .inl fTS)), (aL, .inr (1, [.ref aLP, .int L_count, .int L_fault, .ref rL_values, .int L_top])), (aLP, .inl (cLP, 60, .inl fLP)), (aY, .inr (7, [.ref aS, .ref rY_images, .ref rY_kept, .ref aL, .ref aR, .ref rY_trial, .ref rY_stages, .ref rY_row, .ref rY_bestRow, .int Y_bestPeak, .int u_15, .int Y_noes, .int Y_fulls]))] H locs := hq
    have hf : ((r_16, u_15, Y_fulls, R_waitingCount, R_at, fRW, T_length, fTS, L_count, L_fault, fLP) : Int32 × Int32 × Int32 × Int32 × Int32 × (Nat → Int32) × Int32 × (Nat → Int32) × Int32 × Int32 × (Nat → Int32)) = fX7_write p1 Y_bads Y_fulls R_waitingCount R_at fRW T_length fTS L_count L_fault fLP := by
      exact ((congrArg (fun (r_2 : Int32) => ((if r_2 = 0 then (
    let r_16 : Int32 := (fX7_refusedAsBad (-2) Y_bads).1
    let u_15 : Int32 := (fX7_refusedAsBad (-2) Y_bads).2
    (r_16, u_15, Y_fulls, R_waitingCount, R_at, fRW, T_length, fTS, L_count, L_fault, fLP))
  else (
    if T_length < 60 then (
      let u_6 : Int32 × (Nat → Int32) := fX5_add p1 T_length fTS
      let u_9 : Int32 × Int32 × (Nat → Int32) × Int32 × Int32 × (Nat → Int32) := fX2_readAll fRW u_6.1 u_6.2 fLP
      (u_6.1, Y_bads, Y_fulls, u_9.1, u_9.2.1, u_9.2.2.1, u_6.1, u_6.2, u_9.2.2.2.1, u_9.2.2.2.2.1, u_9.2.2.2.2.2))
    else (
      let r_13 : Int32 := (fX7_refusedAsFull Y_fulls).1
      let u_12 : Int32 := (fX7_refusedAsFull Y_fulls).2
      (r_13, Y_bads, u_12, R_waitingCount, R_at, fRW, T_length, fTS, L_count, L_fault, fLP)))) : Int32 × Int32 × Int32 × Int32 × Int32 × (Nat → Int32) × Int32 × (Nat → Int32) × Int32 × Int32 × (Nat → Int32))) er_2.symm).trans ((if_pos c_4).trans ((congrArg (fun (r_16 : Int32) => ((let u_15 : Int32 := (fX7_refusedAsBad (-2) Y_bads).2
  (r_16, u_15, Y_fulls, R_waitingCount, R_at, fRW, T_length, fTS, L_count, L_fault, fLP)) : Int32 × Int32 × Int32 × Int32 × Int32 × (Nat → Int32) × Int32 × (Nat → Int32) × Int32 × Int32 × (Nat → Int32))) er_16.symm).trans ((congrArg (fun (u_15 : Int32) => (((r_16, u_15, Y_fulls, R_waitingCount, R_at, fRW, T_length, fTS, L_count, L_fault, fLP)) : Int32 × Int32 × Int32 × Int32 × Int32 × (Nat → Int32) × Int32 × (Nat → Int32) × Int32 × Int32 × (Nat → Int32))) eu_15.symm))))).symm
    have hf1 := congrArg Prod.fst hf
    have hf2 := congrArg Prod.snd hf
    have en_0 : 0 ≤ T_length.toInt := by first | assumption | omega
    have en_1 : T_length.toInt ≤ 60 := by first | assumption | omega
    have en_2 : 0 ≤ L_count.toInt := by first | assumption | omega
    have en_3 : L_count.toInt ≤ 60 := by first | assumption | omega
    exact kk_ei hx hb hr hlocks hK hq [7, 0, 1, 2, 3, 4, 5, 6] (u_15, Y_fulls, R_waitingCount, R_at, fRW, T_length, fTS, L_count, L_fault, fLP) rfl (by decide) dX7_write_16 ⟨hf1, hf2, en_0, en_1, en_2, en_3⟩
def fX7_erase (fRW : Nat → Int32) (T_length : Int32) (fTS : Nat → Int32) (fLP : Nat → Int32) : Int32 × Int32 × Int32 × (Nat → Int32) × Int32 × Int32 × Int32 × (Nat → Int32) :=
  let u_1 : Int32 × Int32 × (Nat → Int32) × Int32 × Int32 × (Nat → Int32) := fX2_readAll fRW 0 fTS fLP
  (T_length, u_1.1, u_1.2.1, u_1.2.2.1, 0, u_1.2.2.2.1, u_1.2.2.2.2.1, u_1.2.2.2.2.2)

set_option maxHeartbeats 4000000 in
set_option maxRecDepth 100000 in
theorem c_X7_erase (l : Launch) (G : va_G) (aY aS aR aRW aT aTS aL aLP rY_images rY_kept rY_trial rY_stages rY_row rY_bestRow rS_numbers rS_pushes rS_child rS_turns rL_values : Nat) (cRW cTS cLP : ClassId) (Y_bestPeak : Int32) (Y_bads : Int32) (Y_noes : Int32) (Y_fulls : Int32) (R_waitingCount : Int32) (R_at : Int32) (fRW : Nat → Int32) (T_length : Int32) (fTS : Nat → Int32) (L_count : Int32) (L_fault : Int32) (L_top : Int32) (fLP : Nat → Int32) (t0 : 0 ≤ T_length.toInt) (t1 : T_length.toInt ≤ 60) (k0 : 0 ≤ L_count.toInt) (k1 : L_count.toInt ≤ 60) : kCi l yX7_erase (Cond.code yX7_erase cX7_erase 2 (some .int) :: wsL_law) ({ frames := 92, cells := 0, slots := 0, locals := 2031 }) G [(cRW, .int), (cTS, .int), (cLP, .int)] [.ref aY] [(aY, .inr (7, [.ref aS, .ref rY_images, .ref rY_kept, .ref aL, .ref aR, .ref rY_trial, .ref rY_stages, .ref rY_row, .ref rY_bestRow, .int Y_bestPeak, .int Y_bads, .int Y_noes, .int Y_fulls])), (aS, .inr (4, [.ref rS_numbers, .ref aT, .ref rS_pushes, .ref rS_child, .ref rS_turns])), (aR, .inr (2, [.ref aRW, .int R_waitingCount, .ref aT, .ref aL, .int R_at])), (aRW, .inl (cRW, 60, .inl fRW)), (aT, .inr (5, [.ref aTS, .int T_length])), (aTS, .inl (cTS, 60, .inl fTS)), (aL, .inr (1, [.ref aLP, .int L_count, .int L_fault, .ref rL_values, .int L_top])), (aLP, .inl (cLP, 60, .inl fLP))] (fun (r : Int32) (u : Int32 × Int32 × (Nat → Int32) × Int32 × Int32 × Int32 × (Nat → Int32)) => r = (fX7_erase fRW T_length fTS fLP).1 ∧ u = (fX7_erase fRW T_length fTS fLP).2 ∧ (0 ≤ u.2.2.2.1.toInt) ∧ (u.2.2.2.1.toInt ≤ 60) ∧ (0 ≤ u.2.2.2.2.1.toInt) ∧ (u.2.2.2.2.1.toInt ≤ 60)) (fun (u : Int32 × Int32 × (Nat → Int32) × Int32 × Int32 × Int32 × (Nat → Int32)) => [(aY, .inr (7, [.ref aS, .ref rY_images, .ref rY_kept, .ref aL, .ref aR, .ref rY_trial, .ref rY_stages, .ref rY_row, .ref rY_bestRow, .int Y_bestPeak, .int Y_bads, .int Y_noes, .int Y_fulls])), (aS, .inr (4, [.ref rS_numbers, .ref aT, .ref rS_pushes, .ref rS_child, .ref rS_turns])), (aR, .inr (2, [.ref aRW, .int u.1, .ref aT, .ref aL, .int u.2.1])), (aRW, .inl (cRW, 60, .inl u.2.2.1)), (aT, .inr (5, [.ref aTS, .int u.2.2.2.1])), (aTS, .inl (cTS, 60, .inl fTS)), (aL, .inr (1, [.ref aLP, .int u.2.2.2.2.1, .int u.2.2.2.2.2.1, .ref rL_values, .int L_top])), (aLP, .inl (cLP, 60, .inl u.2.2.2.2.2.2))]) := by
  intro sz
  refine Met.ofW (cc := cX7_erase) (maxL := 2) (ret := (some .int)) (by decide) rfl ?_
  intro p e s m args below meth c s₁ B hml hv
  obtain ⟨rfl, hv⟩ := hv
  obtain ⟨rfl, hK, hq, hA⟩ := kk_begin hv
  have hx := B.exec
  have hb := B.bytes
  have hr := B.returns
  have hts := atoms_spec (ws := (Cond.code yX7_erase cX7_erase 2 (some .int) :: wsL_law)) B.pre
  have hown : s.vm.findClass RX7 = some m.cls := findClass_of_methodNamed B.named
  have hlocks := B.notSynchronized
  have hsb : ∀ w ∈ wsL_law, w ∈ (Cond.code yX7_erase cX7_erase 2 (some .int) :: wsL_law) := fun _ h => List.mem_cons_of_mem _ h
  generalize va_A [(aY, .inr (7, [.ref aS, .ref rY_images, .ref rY_kept, .ref aL, .ref aR, .ref rY_trial, .ref rY_stages, .ref rY_row, .ref rY_bestRow, .int Y_bestPeak, .int Y_bads, .int Y_noes, .int Y_fulls])), (aS, .inr (4, [.ref rS_numbers, .ref aT, .ref rS_pushes, .ref rS_child, .ref rS_turns])), (aR, .inr (2, [.ref aRW, .int R_waitingCount, .ref aT, .ref aL, .int R_at])), (aRW, .inl (cRW, 60, .inl fRW)), (aT, .inr (5, [.ref aTS, .int T_length])), (aTS, .inl (cTS, 60, .inl fTS)), (aL, .inr (1, [.ref aLP, .int L_count, .int L_fault, .ref rL_values, .int L_top])), (aLP, .inl (cLP, 60, .inl fLP))] s.heap.size = A at hq hA ⊢
  have iX4 : ∀ w ∈ u_ws RX4 TX4 5, w ∈ (Cond.code yX7_erase cX7_erase 2 (some .int) :: wsL_law) := fun w h => hsb w (bin_X4 w h)
  have iX5 : ∀ w ∈ u_ws RX5 TX5 2, w ∈ (Cond.code yX7_erase cX7_erase 2 (some .int) :: wsL_law) := fun w h => hsb w (bin_X5 w h)
  have iX7 : ∀ w ∈ u_ws RX7 TX7 13, w ∈ (Cond.code yX7_erase cX7_erase 2 (some .int) :: wsL_law) := fun w h => hsb w (bin_X7 w h)
  have lk0_ := hts _ (hsb _ wd_15)
  have lk1_ := hts _ (hsb _ wd_26)
  have lk2_ := hts _ (hsb _ wd_171)
  have lk3_ := hts _ (hsb _ wd_27)
  have hl := lv_entry ([.ref aY]) (n := 2) (Nat.le_of_ble_eq_true rfl)
  rw [lg_entry_eq]
  generalize (lg_sl ([.ref aY]) ++ List.replicate (2 - (lg_sl ([.ref aY])).length) Slot.unset).toArray = ls at hl ⊢
  have hl : lv_has ls 2 [(0, .ref aY)] := hl
  refine lv_aload_n hx hb dX7_erase_0 rfl (lv_at hl 0 rfl) ?_
  refine kk_get (ci := 7) (v := .ref aS) (C := RX7) (T := TX7) (N := 13) hx hb hts iX7 hown hK hq 0 rfl rfl 0 (by decide) lk0_ rfl dX7_erase_1 ?_
  refine kk_get (ci := 4) (v := .ref aT) (C := RX4) (T := TX4) (N := 5) hx hb hts iX4 hown hK hq 1 rfl rfl 1 (by decide) lk1_ rfl dX7_erase_4 ?_
  refine kk_get (ci := 5) (v := .int T_length) (C := RX5) (T := TX5) (N := 2) hx hb hts iX5 hown hK hq 4 rfl rfl 1 (by decide) lk2_ rfl dX7_erase_7 ?_
  refine lv_istore_n (lv' := [(1, .int T_length), (0, .ref aY)]) hx hb dX7_erase_10 rfl hl (by decide) rfl (fun ls hl => ?_)
  refine lv_aload_n hx hb dX7_erase_11 rfl (lv_at hl 1 rfl) ?_
  refine kk_get (ci := 7) (v := .ref aS) (C := RX7) (T := TX7) (N := 13) hx hb hts iX7 hown hK hq 0 rfl rfl 0 (by decide) lk0_ rfl dX7_erase_12 ?_
  refine kk_get (ci := 4) (v := .ref aT) (C := RX4) (T := TX4) (N := 5) hx hb hts iX4 hown hK hq 1 rfl rfl 1 (by decide) lk1_ rfl dX7_erase_15 ?_
  refine lv_iconst (v := 0) hx hb dX7_erase_18 (by decide) ?_
  refine kk_put (ws' := [(aY, .inr (7, [.ref aS, .ref rY_images, .ref rY_kept, .ref aL, .ref aR, .ref rY_trial, .ref rY_stages, .ref rY_row, .ref rY_bestRow, .int Y_bestPeak, .int Y_bads, .int Y_noes, .int Y_fulls])), (aS, .inr (4, [.ref rS_numbers, .ref aT, .ref rS_pushes, .ref rS_child, .ref rS_turns])), (aR, .inr (2, [.ref aRW, .int R_waitingCount, .ref aT, .ref aL, .int R_at])), (aRW, .inl (cRW, 60, .inl fRW)), (aT, .inr (5, [.ref aTS, .int 0])), (aTS, .inl (cTS, 60, .inl fTS)), (aL, .inr (1, [.ref aLP, .int L_count, .int L_fault, .ref rL_values, .int L_top])), (aLP, .inl (cLP, 60, .inl fLP))]) (ci := 5) (v := .int 0) (C := RX5) (T := TX5) (N := 2) hx hb hts iX5 tyX5_ok nmX5 hown hK hq 4 rfl rfl 1 (by decide) lk2_ rfl rfl rfl (Nat.le_of_ble_eq_true rfl) dX7_erase_19 rfl (fun H locs hq => ?_)
  refine lv_aload_n hx hb dX7_erase_22 rfl (lv_at hl 1 rfl) ?_
  refine kk_get (ci := 7) (v := .ref aR) (C := RX7) (T := TX7) (N := 13) hx hb hts iX7 hown hK hq 0 rfl rfl 4 (by decide) lk3_ rfl dX7_erase_23 ?_
  refine kk_Vv (As := []) (rest := []) (wr := [(aY, .inr (7, [.ref aS, .ref rY_images, .ref rY_kept, .ref aL, .ref aR, .ref rY_trial, .ref rY_stages, .ref rY_row, .ref rY_bestRow, .int Y_bestPeak, .int Y_bads, .int Y_noes, .int Y_fulls])), (aS, .inr (4, [.ref rS_numbers, .ref aT, .ref rS_pushes, .ref rS_child, .ref rS_turns]))]) ⟨hx, hb, hml, hown, hts⟩ (c_X2_readAll l G aR aRW aT aTS aL aLP rL_values cRW cTS cLP R_waitingCount R_at fRW 0 fTS L_count L_fault L_top fLP (by decide)) (kk_cwV 0 hts hsb wd_180 wd_181 wd_182 wd_25 wd_183 rfl rfl hd_X2_readAll ⟨Nat.le_of_ble_eq_true rfl, Nat.le_of_ble_eq_true rfl⟩) hA hK hq [2, 3, 4, 5, 6, 7] [0, 1] [0, 1, 2] rfl rfl rfl (by decide) (by decide) (by decide) 0 2 rfl rfl rfl rfl hl.1 rfl (Nat.le_of_ble_eq_true rfl) dX7_erase_26 ⟨Nat.zero_le _, Nat.zero_le _⟩ (fun u_1 H locs h_3 hq => ?_)
  obtain ⟨eu_1, k0_u_1, k1_u_1⟩ := h_3
  have hq : kAt G A s [(aY, .inr (7, [.ref aS, .ref rY_images, .ref rY_kept, .ref aL, .ref aR, .ref rY_trial, .ref rY_stages, .ref rY_row, .ref rY_bestRow, .int Y_bestPeak, .int Y_bads, .int Y_noes, .int Y_fulls])), (aS, .inr (4, [.ref rS_numbers, .ref aT, .ref rS_pushes, .ref rS_child, .ref rS_turns])), (aR, .inr (2, [.ref aRW, .int u_1.1, .ref aT, .ref aL, .int u_1.2.1])), (aRW, .inl (cRW, 60, .inl u_1.2.2.1)), (aT, .inr (5, [.ref aTS, .int 0])), (aTS, .inl (cTS, 60, .inl fTS)), (aL, .inr (1, [.ref aLP, .int u_1.2.2.2.1, .int u_1.2.2.2.2.1, .ref rL_values, .int L_top])), (aLP, .inl (cLP, 60, .inl u_1.2.2.2.2.2))] H locs := hq
  refine lv_iload_n hx hb dX7_erase_29 rfl (lv_at hl 0 rfl) ?_
  have hf : ((T_length, u_1.1, u_1.2.1, u_1.2.2.1, 0, u_1.2.2.2.1, u_1.2.2.2.2.1, u_1.2.2.2.2.2) : Int32 × Int32 × Int32 × (Nat → Int32) × Int32 × Int32 × Int32 × (Nat → Int32)) = fX7_erase fRW T_length fTS fLP := by
    exact ((congrArg (fun (u_1 : Int32 × Int32 × (Nat → Int32) × Int32 × Int32 × (Nat → Int32)) => (((T_length, u_1.1, u_1.2.1, u_1.2.2.1, 0, u_1.2.2.2.1, u_1.2.2.2.2.1, u_1.2.2.2.2.2)) : Int32 × Int32 × Int32 × (Nat → Int32) × Int32 × Int32 × Int32 × (Nat → Int32))) eu_1.symm)).symm
  have hf1 := congrArg Prod.fst hf
  have hf2 := congrArg Prod.snd hf
  have en_0 : 0 ≤ (0 : Int32).toInt := by first | assumption | decide
  have en_1 : (0 : Int32).toInt ≤ 60 := by first | assumption | decide
  have en_2 : 0 ≤ u_1.2.2.2.1.toInt := by first | assumption | omega
  have en_3 : u_1.2.2.2.1.toInt ≤ 60 := by first | assumption | omega
  exact kk_ei hx hb hr hlocks hK hq [0, 1, 2, 3, 4, 5, 6, 7] (u_1.1, u_1.2.1, u_1.2.2.1, 0, u_1.2.2.2.1, u_1.2.2.2.2.1, u_1.2.2.2.2.2) rfl (by decide) dX7_erase_30 ⟨hf1, hf2, en_0, en_1, en_2, en_3⟩
def fX7_fault (L_fault : Int32) : Int32 :=
  L_fault

set_option maxHeartbeats 4000000 in
set_option maxRecDepth 100000 in
theorem c_X7_fault (l : Launch) (G : va_G) (aY aL rY_now rY_images rY_kept rY_reader rY_trial rY_stages rY_row rY_bestRow rL_parts rL_values : Nat) (Y_bestPeak : Int32) (Y_bads : Int32) (Y_noes : Int32) (Y_fulls : Int32) (L_count : Int32) (L_fault : Int32) (L_top : Int32) : kCi l yX7_fault (Cond.code yX7_fault cX7_fault 1 (some .int) :: wsL_law) ({ frames := 0, cells := 0, slots := 0, locals := 0 }) G [] [.ref aY] [(aY, .inr (7, [.ref rY_now, .ref rY_images, .ref rY_kept, .ref aL, .ref rY_reader, .ref rY_trial, .ref rY_stages, .ref rY_row, .ref rY_bestRow, .int Y_bestPeak, .int Y_bads, .int Y_noes, .int Y_fulls])), (aL, .inr (1, [.ref rL_parts, .int L_count, .int L_fault, .ref rL_values, .int L_top]))] (fun (r : Int32) (_ : Unit) => r = fX7_fault L_fault) (fun (_ : Unit) => [(aY, .inr (7, [.ref rY_now, .ref rY_images, .ref rY_kept, .ref aL, .ref rY_reader, .ref rY_trial, .ref rY_stages, .ref rY_row, .ref rY_bestRow, .int Y_bestPeak, .int Y_bads, .int Y_noes, .int Y_fulls])), (aL, .inr (1, [.ref rL_parts, .int L_count, .int L_fault, .ref rL_values, .int L_top]))]) := by
  intro sz
  refine Met.ofW (cc := cX7_fault) (maxL := 1) (ret := (some .int)) (by decide) rfl ?_
  intro p e s m args below meth c s₁ B hml hv
  obtain ⟨rfl, hv⟩ := hv
  obtain ⟨rfl, hK, hq, hA⟩ := kk_begin hv
  have hx := B.exec
  have hb := B.bytes
  have hr := B.returns
  have hts := atoms_spec (ws := (Cond.code yX7_fault cX7_fault 1 (some .int) :: wsL_law)) B.pre
  have hown : s.vm.findClass RX7 = some m.cls := findClass_of_methodNamed B.named
  have hlocks := B.notSynchronized
  have hsb : ∀ w ∈ wsL_law, w ∈ (Cond.code yX7_fault cX7_fault 1 (some .int) :: wsL_law) := fun _ h => List.mem_cons_of_mem _ h
  generalize va_A [(aY, .inr (7, [.ref rY_now, .ref rY_images, .ref rY_kept, .ref aL, .ref rY_reader, .ref rY_trial, .ref rY_stages, .ref rY_row, .ref rY_bestRow, .int Y_bestPeak, .int Y_bads, .int Y_noes, .int Y_fulls])), (aL, .inr (1, [.ref rL_parts, .int L_count, .int L_fault, .ref rL_values, .int L_top]))] s.heap.size = A at hq hA ⊢
  have iX1 : ∀ w ∈ u_ws RX1 TX1 5, w ∈ (Cond.code yX7_fault cX7_fault 1 (some .int) :: wsL_law) := fun w h => hsb w (bin_X1 w h)
  have iX7 : ∀ w ∈ u_ws RX7 TX7 13, w ∈ (Cond.code yX7_fault cX7_fault 1 (some .int) :: wsL_law) := fun w h => hsb w (bin_X7 w h)
  have lk0_ := hts _ (hsb _ wd_22)
  have lk1_ := hts _ (hsb _ wd_281)
  have hl := lv_entry ([.ref aY]) (n := 1) (Nat.le_of_ble_eq_true rfl)
  rw [lg_entry_eq]
  generalize (lg_sl ([.ref aY]) ++ List.replicate (1 - (lg_sl ([.ref aY])).length) Slot.unset).toArray = ls at hl ⊢
  have hl : lv_has ls 1 [(0, .ref aY)] := hl
  refine lv_aload_n hx hb dX7_fault_0 rfl (lv_at hl 0 rfl) ?_
  refine kk_get (ci := 7) (v := .ref aL) (C := RX7) (T := TX7) (N := 13) hx hb hts iX7 hown hK hq 0 rfl rfl 3 (by decide) lk0_ rfl dX7_fault_1 ?_
  refine kk_get (ci := 1) (v := .int L_fault) (C := RX1) (T := TX1) (N := 5) hx hb hts iX1 hown hK hq 1 rfl rfl 2 (by decide) lk1_ rfl dX7_fault_4 ?_
  have hf : (L_fault : Int32) = fX7_fault L_fault := by
    exact rfl
  exact kk_ei hx hb hr hlocks hK hq [0, 1] () rfl (by decide) dX7_fault_7 hf
theorem hd_X3_add : yX3_add.cls = RX3 ∧ yX3_add.cls ≠ "java/lang/invoke/MethodHandle" ∧ yX3_add.cls ≠ "java/lang/invoke/VarHandle" ∧ (parseMethodDescriptor yX3_add.desc).map (fun d => d.parameters.length) = some 2 := by decide +kernel
def fX7_push (p1 : Int32) (p2 : Int32) (Y_bads : Int32) (Y_fulls : Int32) (P_count : Int32) (fPT : Nat → Int32) (fPF : Nat → Int32) : Int32 × Int32 × Int32 × Int32 × (Nat → Int32) × (Nat → Int32) :=
  let r_2 : Int32 := fX7_within p1 0 9999
  if r_2 = 0 then (
    let r_6 : Int32 := (fX7_refusedAsBad (-2) Y_bads).1
    let u_5 : Int32 := (fX7_refusedAsBad (-2) Y_bads).2
    (r_6, u_5, Y_fulls, P_count, fPT, fPF))
  else (
    let r_9 : Int32 := fX7_isForce p2
    if r_9 = 0 then (
      let r_20 : Int32 := (fX7_refusedAsBad (-2) Y_bads).1
      let u_19 : Int32 := (fX7_refusedAsBad (-2) Y_bads).2
      (r_20, u_19, Y_fulls, P_count, fPT, fPF))
    else (
      if P_count < 8 then (
        let u_13 : Int32 × (Nat → Int32) × (Nat → Int32) := fX3_add p1 p2 P_count fPT fPF
        (u_13.1, Y_bads, Y_fulls, u_13.1, u_13.2.1, u_13.2.2))
      else (
        let r_17 : Int32 := (fX7_refusedAsFull Y_fulls).1
        let u_16 : Int32 := (fX7_refusedAsFull Y_fulls).2
        (r_17, Y_bads, u_16, P_count, fPT, fPF))))

set_option maxHeartbeats 4000000 in
set_option maxRecDepth 100000 in
theorem c_X7_push (l : Launch) (G : va_G) (aY aS aP aPT aPF rY_images rY_kept rY_law rY_reader rY_trial rY_stages rY_row rY_bestRow rS_numbers rS_text rS_child rS_turns : Nat) (cPT cPF : ClassId) (p1 : Int32) (p2 : Int32) (Y_bestPeak : Int32) (Y_bads : Int32) (Y_noes : Int32) (Y_fulls : Int32) (P_count : Int32) (fPT : Nat → Int32) (fPF : Nat → Int32) (p0 : 0 ≤ P_count.toInt) (p8 : P_count.toInt ≤ 8) : kCi l yX7_push (Cond.code yX7_push cX7_push 3 (some .int) :: wsL_law) ({ frames := 2, cells := 0, slots := 0, locals := 42 }) G [(cPT, .int), (cPF, .int)] [.ref aY, .int p1, .int p2] [(aY, .inr (7, [.ref aS, .ref rY_images, .ref rY_kept, .ref rY_law, .ref rY_reader, .ref rY_trial, .ref rY_stages, .ref rY_row, .ref rY_bestRow, .int Y_bestPeak, .int Y_bads, .int Y_noes, .int Y_fulls])), (aS, .inr (4, [.ref rS_numbers, .ref rS_text, .ref aP, .ref rS_child, .ref rS_turns])), (aP, .inr (3, [.ref aPT, .ref aPF, .int P_count])), (aPT, .inl (cPT, 8, .inl fPT)), (aPF, .inl (cPF, 8, .inl fPF))] (fun (r : Int32) (u : Int32 × Int32 × Int32 × (Nat → Int32) × (Nat → Int32)) => r = (fX7_push p1 p2 Y_bads Y_fulls P_count fPT fPF).1 ∧ u = (fX7_push p1 p2 Y_bads Y_fulls P_count fPT fPF).2 ∧ (0 ≤ u.2.2.1.toInt) ∧ (u.2.2.1.toInt ≤ 8)) (fun (u : Int32 × Int32 × Int32 × (Nat → Int32) × (Nat → Int32)) => [(aY, .inr (7, [.ref aS, .ref rY_images, .ref rY_kept, .ref rY_law, .ref rY_reader, .ref rY_trial, .ref rY_stages, .ref rY_row, .ref rY_bestRow, .int Y_bestPeak, .int u.1, .int Y_noes, .int u.2.1])), (aS, .inr (4, [.ref rS_numbers, .ref rS_text, .ref aP, .ref rS_child, .ref rS_turns])), (aP, .inr (3, [.ref aPT, .ref aPF, .int u.2.2.1])), (aPT, .inl (cPT, 8, .inl u.2.2.2.1)), (aPF, .inl (cPF, 8, .inl u.2.2.2.2))]) := by
  intro sz
  refine Met.ofW (cc := cX7_push) (maxL := 3) (ret := (some .int)) (by decide) rfl ?_
  intro p e s m args below meth c s₁ B hml hv
  obtain ⟨rfl, hv⟩ := hv
  obtain ⟨rfl, hK, hq, hA⟩ := kk_begin hv
  have hx := B.exec
  have hb := B.bytes
  have hr := B.returns
  have hts := atoms_spec (ws := (Cond.code yX7_push cX7_push 3 (some .int) :: wsL_law)) B.pre
  have hown : s.vm.findClass RX7 = some m.cls := findClass_of_methodNamed B.named
  have hlocks := B.notSynchronized
  have hsb : ∀ w ∈ wsL_law, w ∈ (Cond.code yX7_push cX7_push 3 (some .int) :: wsL_law) := fun _ h => List.mem_cons_of_mem _ h
  generalize va_A [(aY, .inr (7, [.ref aS, .ref rY_images, .ref rY_kept, .ref rY_law, .ref rY_reader, .ref rY_trial, .ref rY_stages, .ref rY_row, .ref rY_bestRow, .int Y_bestPeak, .int Y_bads, .int Y_noes, .int Y_fulls])), (aS, .inr (4, [.ref rS_numbers, .ref rS_text, .ref aP, .ref rS_child, .ref rS_turns])), (aP, .inr (3, [.ref aPT, .ref aPF, .int P_count])), (aPT, .inl (cPT, 8, .inl fPT)), (aPF, .inl (cPF, 8, .inl fPF))] s.heap.size = A at hq hA ⊢
  have iX3 : ∀ w ∈ u_ws RX3 TX3 3, w ∈ (Cond.code yX7_push cX7_push 3 (some .int) :: wsL_law) := fun w h => hsb w (bin_X3 w h)
  have iX4 : ∀ w ∈ u_ws RX4 TX4 5, w ∈ (Cond.code yX7_push cX7_push 3 (some .int) :: wsL_law) := fun w h => hsb w (bin_X4 w h)
  have iX7 : ∀ w ∈ u_ws RX7 TX7 13, w ∈ (Cond.code yX7_push cX7_push 3 (some .int) :: wsL_law) := fun w h => hsb w (bin_X7 w h)
  have lk0_ := hts _ (hsb _ wd_15)
  have lk1_ := hts _ (hsb _ wd_332)
  have lk2_ := hts _ (hsb _ wd_333)
  have hl := lv_entry ([.ref aY, .int p1, .int p2]) (n := 3) (Nat.le_of_ble_eq_true rfl)
  rw [lg_entry_eq]
  generalize (lg_sl ([.ref aY, .int p1, .int p2]) ++ List.replicate (3 - (lg_sl ([.ref aY, .int p1, .int p2])).length) Slot.unset).toArray = ls at hl ⊢
  have hl : lv_has ls 3 [(0, .ref aY), (1, .int p1), (2, .int p2)] := hl
  refine lv_iload_n hx hb dX7_push_0 rfl (lv_at hl 1 rfl) ?_
  refine lv_iconst (v := 0) hx hb dX7_push_1 (by decide) ?_
  refine lv_sipush (v := 9999) hx hb dX7_push_2 (by decide) ?_
  refine kk_Si (As := [.int p1, .int 0, .int 9999]) (rest := []) (wr := [(aY, .inr (7, [.ref aS, .ref rY_images, .ref rY_kept, .ref rY_law, .ref rY_reader, .ref rY_trial, .ref rY_stages, .ref rY_row, .ref rY_bestRow, .int Y_bestPeak, .int Y_bads, .int Y_noes, .int Y_fulls])), (aS, .inr (4, [.ref rS_numbers, .ref rS_text, .ref aP, .ref rS_child, .ref rS_turns])), (aP, .inr (3, [.ref aPT, .ref aPF, .int P_count])), (aPT, .inl (cPT, 8, .inl fPT)), (aPF, .inl (cPF, 8, .inl fPF))]) ⟨hx, hb, hml, hown, hts⟩ (c_X7_within l G p1 0 9999) (kk_cwS 3 hts hsb wd_136 wd_137 wd_2 wd_138 rfl rfl hd_X7_within ⟨Nat.le_of_ble_eq_true rfl, Nat.le_of_ble_eq_true rfl⟩) hA hK hq [] [0, 1, 2, 3, 4] [] rfl rfl rfl (by decide) (by decide) (by decide) rfl hl.1 rfl (Nat.le_of_ble_eq_true rfl) dX7_push_5 ⟨Nat.zero_le _, Nat.zero_le _⟩ (fun r_2 u_1 H locs h_3 hq => ?_)
  obtain ⟨er_2, zr_2⟩ := h_3
  have hq : kAt G A s [(aY, .inr (7, [.ref aS, .ref rY_images, .ref rY_kept, .ref rY_law, .ref rY_reader, .ref rY_trial, .ref rY_stages, .ref rY_row, .ref rY_bestRow, .int Y_bestPeak, .int Y_bads, .int Y_noes, .int Y_fulls])), (aS, .inr (4, [.ref rS_numbers, .ref rS_text, .ref aP, .ref rS_child, .ref rS_turns])), (aP, .inr (3, [.ref aPT, .ref aPF, .int P_count])), (aPT, .inl (cPT, 8, .inl fPT)), (aPF, .inl (cPF, 8, .inl fPF))] H locs := hq
  refine lv_if_eq (tgt := 18) hx hb dX7_push_8 (by decide) (fun c_4 => ?_) (fun c_4 => ?_)
  · skip
    refine lv_aload_n hx hb dX7_push_18 rfl (lv_at hl 0 rfl) ?_
    refine lv_bipush (v := -2) hx hb dX7_push_19 (by decide) ?_
    refine kk_Vi (As := [.int (-2)]) (rest := []) (wr := [(aS, .inr (4, [.ref rS_numbers, .ref rS_text, .ref aP, .ref rS_child, .ref rS_turns])), (aP, .inr (3, [.ref aPT, .ref aPF, .int P_count])), (aPT, .inl (cPT, 8, .inl fPT)), (aPF, .inl (cPF, 8, .inl fPF))]) ⟨hx, hb, hml, hown, hts⟩ (c_X7_refusedAsBad l G aY aS rY_images rY_kept rY_law rY_reader rY_trial rY_stages rY_row rY_bestRow (-2) Y_bestPeak Y_bads Y_noes Y_fulls) (kk_cwV 1 hts hsb wd_139 wd_140 wd_141 wd_2 wd_142 rfl rfl hd_X7_refusedAsBad ⟨Nat.le_of_ble_eq_true rfl, Nat.le_of_ble_eq_true rfl⟩) hA hK hq [0] [1, 2, 3, 4] [] rfl rfl rfl (by decide) (by decide) (by decide) 0 7 rfl rfl rfl rfl hl.1 rfl (Nat.le_of_ble_eq_true rfl) dX7_push_21 ⟨Nat.zero_le _, Nat.zero_le _⟩ (fun r_6 u_5 H locs h_7 hq => ?_)
    obtain ⟨er_6, eu_5⟩ := h_7
    have hq : kAt G A s [(aS, .inr (4, [.ref rS_numbers, .ref rS_text, .ref aP, .ref rS_child, .ref rS_turns])), (aP, .inr (3, [.ref aPT, .ref aPF, .int P_count])), (aPT, .inl (cPT, 8, .inl fPT)), (aPF, .inl (cPF, 8, .inl fPF)), (aY, .inr (7, [.ref aS, .ref rY_images, .ref rY_kept, .ref rY_law, .ref rY_reader, .ref rY_trial, .ref rY_stages, .ref rY_row, .ref rY_bestRow, .int Y_bestPeak, .int u_5, .int Y_noes, .int Y_fulls]))] H locs := hq
    have hf : ((r_6, u_5, Y_fulls, P_count, fPT, fPF) : Int32 × Int32 × Int32 × Int32 × (Nat → Int32) × (Nat → Int32)) = fX7_push p1 p2 Y_bads Y_fulls P_count fPT fPF := by
      exact ((congrArg (fun (r_2 : Int32) => ((if r_2 = 0 then (
    let r_6 : Int32 := (fX7_refusedAsBad (-2) Y_bads).1
    let u_5 : Int32 := (fX7_refusedAsBad (-2) Y_bads).2
    (r_6, u_5, Y_fulls, P_count, fPT, fPF))
  else (
    let r_9 : Int32 := fX7_isForce p2
    if r_9 = 0 then (
      let r_20 : Int32 := (fX7_refusedAsBad (-2) Y_bads).1
      let u_19 : Int32 := (fX7_refusedAsBad (-2) Y_bads).2
      (r_20, u_19, Y_fulls, P_count, fPT, fPF))
    else (
      if P_count < 8 then (
        let u_13 : Int32 × (Nat → Int32) × (Nat → Int32) := fX3_add p1 p2 P_count fPT fPF
        (u_13.1, Y_bads, Y_fulls, u_13.1, u_13.2.1, u_13.2.2))
      else (
        let r_17 : Int32 := (fX7_refusedAsFull Y_fulls).1
        let u_16 : Int32 := (fX7_refusedAsFull Y_fulls).2
        (r_17, Y_bads, u_16, P_count, fPT, fPF))))) : Int32 × Int32 × Int32 × Int32 × (Nat → Int32) × (Nat → Int32))) er_2.symm).trans ((if_pos c_4).trans ((congrArg (fun (r_6 : Int32) => ((let u_5 : Int32 := (fX7_refusedAsBad (-2) Y_bads).2
  (r_6, u_5, Y_fulls, P_count, fPT, fPF)) : Int32 × Int32 × Int32 × Int32 × (Nat → Int32) × (Nat → Int32))) er_6.symm).trans ((congrArg (fun (u_5 : Int32) => (((r_6, u_5, Y_fulls, P_count, fPT, fPF)) : Int32 × Int32 × Int32 × Int32 × (Nat → Int32) × (Nat → Int32))) eu_5.symm))))).symm
    have hf1 := congrArg Prod.fst hf
    have hf2 := congrArg Prod.snd hf
    have en_0 : 0 ≤ P_count.toInt := by first | assumption | omega
    have en_1 : P_count.toInt ≤ 8 := by first | assumption | omega
    exact kk_ei hx hb hr hlocks hK hq [4, 0, 1, 2, 3] (u_5, Y_fulls, P_count, fPT, fPF) rfl (by decide) dX7_push_24 ⟨hf1, hf2, en_0, en_1⟩
  · skip
    refine lv_iload_n hx hb dX7_push_11 rfl (lv_at hl 2 rfl) ?_
    refine kk_Si (As := [.int p2]) (rest := []) (wr := [(aY, .inr (7, [.ref aS, .ref rY_images, .ref rY_kept, .ref rY_law, .ref rY_reader, .ref rY_trial, .ref rY_stages, .ref rY_row, .ref rY_bestRow, .int Y_bestPeak, .int Y_bads, .int Y_noes, .int Y_fulls])), (aS, .inr (4, [.ref rS_numbers, .ref rS_text, .ref aP, .ref rS_child, .ref rS_turns])), (aP, .inr (3, [.ref aPT, .ref aPF, .int P_count])), (aPT, .inl (cPT, 8, .inl fPT)), (aPF, .inl (cPF, 8, .inl fPF))]) ⟨hx, hb, hml, hown, hts⟩ (c_X7_isForce l G p2) (kk_cwS 1 hts hsb wd_334 wd_335 wd_2 wd_336 rfl rfl hd_X7_isForce ⟨Nat.le_of_ble_eq_true rfl, Nat.le_of_ble_eq_true rfl⟩) hA hK hq [] [0, 1, 2, 3, 4] [] rfl rfl rfl (by decide) (by decide) (by decide) rfl hl.1 rfl (Nat.le_of_ble_eq_true rfl) dX7_push_12 ⟨Nat.zero_le _, Nat.zero_le _⟩ (fun r_9 u_8 H locs h_10 hq => ?_)
    obtain ⟨er_9, zr_9⟩ := h_10
    have hq : kAt G A s [(aY, .inr (7, [.ref aS, .ref rY_images, .ref rY_kept, .ref rY_law, .ref rY_reader, .ref rY_trial, .ref rY_stages, .ref rY_row, .ref rY_bestRow, .int Y_bestPeak, .int Y_bads, .int Y_noes, .int Y_fulls])), (aS, .inr (4, [.ref rS_numbers, .ref rS_text, .ref aP, .ref rS_child, .ref rS_turns])), (aP, .inr (3, [.ref aPT, .ref aPF, .int P_count])), (aPT, .inl (cPT, 8, .inl fPT)), (aPF, .inl (cPF, 8, .inl fPF))] H locs := hq
    refine lv_if_ne (tgt := 25) hx hb dX7_push_15 (by decide) (fun c_11 => ?_) (fun c_11 => ?_)
    · skip
      refine lv_aload_n hx hb dX7_push_25 rfl (lv_at hl 0 rfl) ?_
      refine kk_get (ci := 7) (v := .ref aS) (C := RX7) (T := TX7) (N := 13) hx hb hts iX7 hown hK hq 0 rfl rfl 0 (by decide) lk0_ rfl dX7_push_26 ?_
      refine kk_get (ci := 4) (v := .ref aP) (C := RX4) (T := TX4) (N := 5) hx hb hts iX4 hown hK hq 1 rfl rfl 2 (by decide) lk1_ rfl dX7_push_29 ?_
      refine kk_get (ci := 3) (v := .int P_count) (C := RX3) (T := TX3) (N := 3) hx hb hts iX3 hown hK hq 2 rfl rfl 2 (by decide) lk2_ rfl dX7_push_32 ?_
      refine lv_bipush (v := 8) hx hb dX7_push_35 (by decide) ?_
      refine lv_icmp_lt (tgt := 45) hx hb dX7_push_37 (by decide) (fun c_12 => ?_) (fun c_12 => ?_)
      · skip
        refine lv_aload_n hx hb dX7_push_45 rfl (lv_at hl 0 rfl) ?_
        refine kk_get (ci := 7) (v := .ref aS) (C := RX7) (T := TX7) (N := 13) hx hb hts iX7 hown hK hq 0 rfl rfl 0 (by decide) lk0_ rfl dX7_push_46 ?_
        refine kk_get (ci := 4) (v := .ref aP) (C := RX4) (T := TX4) (N := 5) hx hb hts iX4 hown hK hq 1 rfl rfl 2 (by decide) lk1_ rfl dX7_push_49 ?_
        refine lv_iload_n hx hb dX7_push_52 rfl (lv_at hl 1 rfl) ?_
        refine lv_iload_n hx hb dX7_push_53 rfl (lv_at hl 2 rfl) ?_
        refine kk_Vv (As := [.int p1, .int p2]) (rest := []) (wr := [(aY, .inr (7, [.ref aS, .ref rY_images, .ref rY_kept, .ref rY_law, .ref rY_reader, .ref rY_trial, .ref rY_stages, .ref rY_row, .ref rY_bestRow, .int Y_bestPeak, .int Y_bads, .int Y_noes, .int Y_fulls])), (aS, .inr (4, [.ref rS_numbers, .ref rS_text, .ref aP, .ref rS_child, .ref rS_turns]))]) ⟨hx, hb, hml, hown, hts⟩ (c_X3_add l G aP aPT aPF cPT cPF p1 p2 P_count fPT fPF (by assumption)) (kk_cwV 2 hts hsb wd_337 wd_338 wd_339 wd_56 wd_340 rfl rfl hd_X3_add ⟨Nat.le_of_ble_eq_true rfl, Nat.le_of_ble_eq_true rfl⟩) hA hK hq [2, 3, 4] [0, 1] [0, 1] rfl rfl rfl (by decide) (by decide) (by decide) 0 3 rfl rfl rfl rfl hl.1 rfl (Nat.le_of_ble_eq_true rfl) dX7_push_54 ⟨Nat.zero_le _, Nat.zero_le _⟩ (fun u_13 H locs h_15 hq => ?_)
        have eu_13 := h_15
        have hq : kAt G A s [(aY, .inr (7, [.ref aS, .ref rY_images, .ref rY_kept, .ref rY_law, .ref rY_reader, .ref rY_trial, .ref rY_stages, .ref rY_row, .ref rY_bestRow, .int Y_bestPeak, .int Y_bads, .int Y_noes, .int Y_fulls])), (aS, .inr (4, [.ref rS_numbers, .ref rS_text, .ref aP, .ref rS_child, .ref rS_turns])), (aP, .inr (3, [.ref aPT, .ref aPF, .int u_13.1])), (aPT, .inl (cPT, 8, .inl u_13.2.1)), (aPF, .inl (cPF, 8, .inl u_13.2.2))] H locs := hq
        have p0u_13 : 0 ≤ u_13.1.toInt := by rw [eu_13]; exact (push_add p0 p8).1
        have p8u_13 : u_13.1.toInt ≤ 8 := by rw [eu_13]; exact (push_add p0 p8).2
        refine lv_aload_n hx hb dX7_push_57 rfl (lv_at hl 0 rfl) ?_
        refine kk_get (ci := 7) (v := .ref aS) (C := RX7) (T := TX7) (N := 13) hx hb hts iX7 hown hK hq 0 rfl rfl 0 (by decide) lk0_ rfl dX7_push_58 ?_
        refine kk_get (ci := 4) (v := .ref aP) (C := RX4) (T := TX4) (N := 5) hx hb hts iX4 hown hK hq 1 rfl rfl 2 (by decide) lk1_ rfl dX7_push_61 ?_
        refine kk_get (ci := 3) (v := .int u_13.1) (C := RX3) (T := TX3) (N := 3) hx hb hts iX3 hown hK hq 2 rfl rfl 2 (by decide) lk2_ rfl dX7_push_64 ?_
        have hf : ((u_13.1, Y_bads, Y_fulls, u_13.1, u_13.2.1, u_13.2.2) : Int32 × Int32 × Int32 × Int32 × (Nat → Int32) × (Nat → Int32)) = fX7_push p1 p2 Y_bads Y_fulls P_count fPT fPF := by
          exact ((congrArg (fun (r_2 : Int32) => ((if r_2 = 0 then (
    let r_6 : Int32 := (fX7_refusedAsBad (-2) Y_bads).1
    let u_5 : Int32 := (fX7_refusedAsBad (-2) Y_bads).2
    (r_6, u_5, Y_fulls, P_count, fPT, fPF))
  else (
    let r_9 : Int32 := fX7_isForce p2
    if r_9 = 0 then (
      let r_20 : Int32 := (fX7_refusedAsBad (-2) Y_bads).1
      let u_19 : Int32 := (fX7_refusedAsBad (-2) Y_bads).2
      (r_20, u_19, Y_fulls, P_count, fPT, fPF))
    else (
      if P_count < 8 then (
        let u_13 : Int32 × (Nat → Int32) × (Nat → Int32) := fX3_add p1 p2 P_count fPT fPF
        (u_13.1, Y_bads, Y_fulls, u_13.1, u_13.2.1, u_13.2.2))
      else (
        let r_17 : Int32 := (fX7_refusedAsFull Y_fulls).1
        let u_16 : Int32 := (fX7_refusedAsFull Y_fulls).2
        (r_17, Y_bads, u_16, P_count, fPT, fPF))))) : Int32 × Int32 × Int32 × Int32 × (Nat → Int32) × (Nat → Int32))) er_2.symm).trans ((if_neg c_4).trans ((congrArg (fun (r_9 : Int32) => ((if r_9 = 0 then (
    let r_20 : Int32 := (fX7_refusedAsBad (-2) Y_bads).1
    let u_19 : Int32 := (fX7_refusedAsBad (-2) Y_bads).2
    (r_20, u_19, Y_fulls, P_count, fPT, fPF))
  else (
    if P_count < 8 then (
      let u_13 : Int32 × (Nat → Int32) × (Nat → Int32) := fX3_add p1 p2 P_count fPT fPF
      (u_13.1, Y_bads, Y_fulls, u_13.1, u_13.2.1, u_13.2.2))
    else (
      let r_17 : Int32 := (fX7_refusedAsFull Y_fulls).1
      let u_16 : Int32 := (fX7_refusedAsFull Y_fulls).2
      (r_17, Y_bads, u_16, P_count, fPT, fPF)))) : Int32 × Int32 × Int32 × Int32 × (Nat → Int32) × (Nat → Int32))) er_9.symm).trans ((if_neg c_11).trans ((if_pos c_12).trans ((congrArg (fun (u_13 : Int32 × (Nat → Int32) × (Nat → Int32)) => (((u_13.1, Y_bads, Y_fulls, u_13.1, u_13.2.1, u_13.2.2)) : Int32 × Int32 × Int32 × Int32 × (Nat → Int32) × (Nat → Int32))) eu_13.symm))))))).symm
        have hf1 := congrArg Prod.fst hf
        have hf2 := congrArg Prod.snd hf
        have en_0 : 0 ≤ u_13.1.toInt := by first | assumption | omega
        have en_1 : u_13.1.toInt ≤ 8 := by first | assumption | omega
        exact kk_ei hx hb hr hlocks hK hq [0, 1, 2, 3, 4] (Y_bads, Y_fulls, u_13.1, u_13.2.1, u_13.2.2) rfl (by decide) dX7_push_67 ⟨hf1, hf2, en_0, en_1⟩
      · skip
        refine lv_aload_n hx hb dX7_push_40 rfl (lv_at hl 0 rfl) ?_
        refine kk_Vi (As := []) (rest := []) (wr := [(aS, .inr (4, [.ref rS_numbers, .ref rS_text, .ref aP, .ref rS_child, .ref rS_turns])), (aP, .inr (3, [.ref aPT, .ref aPF, .int P_count])), (aPT, .inl (cPT, 8, .inl fPT)), (aPF, .inl (cPF, 8, .inl fPF))]) ⟨hx, hb, hml, hown, hts⟩ (c_X7_refusedAsFull l G aY aS rY_images rY_kept rY_law rY_reader rY_trial rY_stages rY_row rY_bestRow Y_bestPeak Y_bads Y_noes Y_fulls) (kk_cwV 0 hts hsb wd_172 wd_173 wd_174 wd_2 wd_175 rfl rfl hd_X7_refusedAsFull ⟨Nat.le_of_ble_eq_true rfl, Nat.le_of_ble_eq_true rfl⟩) hA hK hq [0] [1, 2, 3, 4] [] rfl rfl rfl (by decide) (by decide) (by decide) 0 7 rfl rfl rfl rfl hl.1 rfl (Nat.le_of_ble_eq_true rfl) dX7_push_41 ⟨Nat.zero_le _, Nat.zero_le _⟩ (fun r_17 u_16 H locs h_18 hq => ?_)
        obtain ⟨er_17, eu_16⟩ := h_18
        have hq : kAt G A s [(aS, .inr (4, [.ref rS_numbers, .ref rS_text, .ref aP, .ref rS_child, .ref rS_turns])), (aP, .inr (3, [.ref aPT, .ref aPF, .int P_count])), (aPT, .inl (cPT, 8, .inl fPT)), (aPF, .inl (cPF, 8, .inl fPF)), (aY, .inr (7, [.ref aS, .ref rY_images, .ref rY_kept, .ref rY_law, .ref rY_reader, .ref rY_trial, .ref rY_stages, .ref rY_row, .ref rY_bestRow, .int Y_bestPeak, .int Y_bads, .int Y_noes, .int u_16]))] H locs := hq
        have hf : ((r_17, Y_bads, u_16, P_count, fPT, fPF) : Int32 × Int32 × Int32 × Int32 × (Nat → Int32) × (Nat → Int32)) = fX7_push p1 p2 Y_bads Y_fulls P_count fPT fPF := by
          exact ((congrArg (fun (r_2 : Int32) => ((if r_2 = 0 then (
    let r_6 : Int32 := (fX7_refusedAsBad (-2) Y_bads).1
    let u_5 : Int32 := (fX7_refusedAsBad (-2) Y_bads).2
    (r_6, u_5, Y_fulls, P_count, fPT, fPF))
  else (
    let r_9 : Int32 := fX7_isForce p2
    if r_9 = 0 then (
      let r_20 : Int32 := (fX7_refusedAsBad (-2) Y_bads).1
      let u_19 : Int32 := (fX7_refusedAsBad (-2) Y_bads).2
      (r_20, u_19, Y_fulls, P_count, fPT, fPF))
    else (
      if P_count < 8 then (
        let u_13 : Int32 × (Nat → Int32) × (Nat → Int32) := fX3_add p1 p2 P_count fPT fPF
        (u_13.1, Y_bads, Y_fulls, u_13.1, u_13.2.1, u_13.2.2))
      else (
        let r_17 : Int32 := (fX7_refusedAsFull Y_fulls).1
        let u_16 : Int32 := (fX7_refusedAsFull Y_fulls).2
        (r_17, Y_bads, u_16, P_count, fPT, fPF))))) : Int32 × Int32 × Int32 × Int32 × (Nat → Int32) × (Nat → Int32))) er_2.symm).trans ((if_neg c_4).trans ((congrArg (fun (r_9 : Int32) => ((if r_9 = 0 then (
    let r_20 : Int32 := (fX7_refusedAsBad (-2) Y_bads).1
    let u_19 : Int32 := (fX7_refusedAsBad (-2) Y_bads).2
    (r_20, u_19, Y_fulls, P_count, fPT, fPF))
  else (
    if P_count < 8 then (
      let u_13 : Int32 × (Nat → Int32) × (Nat → Int32) := fX3_add p1 p2 P_count fPT fPF
      (u_13.1, Y_bads, Y_fulls, u_13.1, u_13.2.1, u_13.2.2))
    else (
      let r_17 : Int32 := (fX7_refusedAsFull Y_fulls).1
      let u_16 : Int32 := (fX7_refusedAsFull Y_fulls).2
      (r_17, Y_bads, u_16, P_count, fPT, fPF)))) : Int32 × Int32 × Int32 × Int32 × (Nat → Int32) × (Nat → Int32))) er_9.symm).trans ((if_neg c_11).trans ((if_neg c_12).trans ((congrArg (fun (r_17 : Int32) => ((let u_16 : Int32 := (fX7_refusedAsFull Y_fulls).2
  (r_17, Y_bads, u_16, P_count, fPT, fPF)) : Int32 × Int32 × Int32 × Int32 × (Nat → Int32) × (Nat → Int32))) er_17.symm).trans ((congrArg (fun (u_16 : Int32) => (((r_17, Y_bads, u_16, P_count, fPT, fPF)) : Int32 × Int32 × Int32 × Int32 × (Nat → Int32) × (Nat → Int32))) eu_16.symm)))))))).symm
        have hf1 := congrArg Prod.fst hf
        have hf2 := congrArg Prod.snd hf
        have en_0 : 0 ≤ P_count.toInt := by first | assumption | omega
        have en_1 : P_count.toInt ≤ 8 := by first | assumption | omega
        exact kk_ei hx hb hr hlocks hK hq [4, 0, 1, 2, 3] (Y_bads, u_16, P_count, fPT, fPF) rfl (by decide) dX7_push_44 ⟨hf1, hf2, en_0, en_1⟩
    · skip
      refine lv_aload_n hx hb dX7_push_18 rfl (lv_at hl 0 rfl) ?_
      refine lv_bipush (v := -2) hx hb dX7_push_19 (by decide) ?_
      refine kk_Vi (As := [.int (-2)]) (rest := []) (wr := [(aS, .inr (4, [.ref rS_numbers, .ref rS_text, .ref aP, .ref rS_child, .ref rS_turns])), (aP, .inr (3, [.ref aPT, .ref aPF, .int P_count])), (aPT, .inl (cPT, 8, .inl fPT)), (aPF, .inl (cPF, 8, .inl fPF))]) ⟨hx, hb, hml, hown, hts⟩ (c_X7_refusedAsBad l G aY aS rY_images rY_kept rY_law rY_reader rY_trial rY_stages rY_row rY_bestRow (-2) Y_bestPeak Y_bads Y_noes Y_fulls) (kk_cwV 1 hts hsb wd_139 wd_140 wd_141 wd_2 wd_142 rfl rfl hd_X7_refusedAsBad ⟨Nat.le_of_ble_eq_true rfl, Nat.le_of_ble_eq_true rfl⟩) hA hK hq [0] [1, 2, 3, 4] [] rfl rfl rfl (by decide) (by decide) (by decide) 0 7 rfl rfl rfl rfl hl.1 rfl (Nat.le_of_ble_eq_true rfl) dX7_push_21 ⟨Nat.zero_le _, Nat.zero_le _⟩ (fun r_20 u_19 H locs h_21 hq => ?_)
      obtain ⟨er_20, eu_19⟩ := h_21
      have hq : kAt G A s [(aS, .inr (4, [.ref rS_numbers, .ref rS_text, .ref aP, .ref rS_child, .ref rS_turns])), (aP, .inr (3, [.ref aPT, .ref aPF, .int P_count])), (aPT, .inl (cPT, 8, .inl fPT)), (aPF, .inl (cPF, 8, .inl fPF)), (aY, .inr (7, [.ref aS, .ref rY_images, .ref rY_kept, .ref rY_law, .ref rY_reader, .ref rY_trial, .ref rY_stages, .ref rY_row, .ref rY_bestRow, .int Y_bestPeak, .int u_19, .int Y_noes, .int Y_fulls]))] H locs := hq
      have hf : ((r_20, u_19, Y_fulls, P_count, fPT, fPF) : Int32 × Int32 × Int32 × Int32 × (Nat → Int32) × (Nat → Int32)) = fX7_push p1 p2 Y_bads Y_fulls P_count fPT fPF := by
        exact ((congrArg (fun (r_2 : Int32) => ((if r_2 = 0 then (
    let r_6 : Int32 := (fX7_refusedAsBad (-2) Y_bads).1
    let u_5 : Int32 := (fX7_refusedAsBad (-2) Y_bads).2
    (r_6, u_5, Y_fulls, P_count, fPT, fPF))
  else (
    let r_9 : Int32 := fX7_isForce p2
    if r_9 = 0 then (
      let r_20 : Int32 := (fX7_refusedAsBad (-2) Y_bads).1
      let u_19 : Int32 := (fX7_refusedAsBad (-2) Y_bads).2
      (r_20, u_19, Y_fulls, P_count, fPT, fPF))
    else (
      if P_count < 8 then (
        let u_13 : Int32 × (Nat → Int32) × (Nat → Int32) := fX3_add p1 p2 P_count fPT fPF
        (u_13.1, Y_bads, Y_fulls, u_13.1, u_13.2.1, u_13.2.2))
      else (
        let r_17 : Int32 := (fX7_refusedAsFull Y_fulls).1
        let u_16 : Int32 := (fX7_refusedAsFull Y_fulls).2
        (r_17, Y_bads, u_16, P_count, fPT, fPF))))) : Int32 × Int32 × Int32 × Int32 × (Nat → Int32) × (Nat → Int32))) er_2.symm).trans ((if_neg c_4).trans ((congrArg (fun (r_9 : Int32) => ((if r_9 = 0 then (
    let r_20 : Int32 := (fX7_refusedAsBad (-2) Y_bads).1
    let u_19 : Int32 := (fX7_refusedAsBad (-2) Y_bads).2
    (r_20, u_19, Y_fulls, P_count, fPT, fPF))
  else (
    if P_count < 8 then (
      let u_13 : Int32 × (Nat → Int32) × (Nat → Int32) := fX3_add p1 p2 P_count fPT fPF
      (u_13.1, Y_bads, Y_fulls, u_13.1, u_13.2.1, u_13.2.2))
    else (
      let r_17 : Int32 := (fX7_refusedAsFull Y_fulls).1
      let u_16 : Int32 := (fX7_refusedAsFull Y_fulls).2
      (r_17, Y_bads, u_16, P_count, fPT, fPF)))) : Int32 × Int32 × Int32 × Int32 × (Nat → Int32) × (Nat → Int32))) er_9.symm).trans ((if_pos c_11).trans ((congrArg (fun (r_20 : Int32) => ((let u_19 : Int32 := (fX7_refusedAsBad (-2) Y_bads).2
  (r_20, u_19, Y_fulls, P_count, fPT, fPF)) : Int32 × Int32 × Int32 × Int32 × (Nat → Int32) × (Nat → Int32))) er_20.symm).trans ((congrArg (fun (u_19 : Int32) => (((r_20, u_19, Y_fulls, P_count, fPT, fPF)) : Int32 × Int32 × Int32 × Int32 × (Nat → Int32) × (Nat → Int32))) eu_19.symm))))))).symm
      have hf1 := congrArg Prod.fst hf
      have hf2 := congrArg Prod.snd hf
      have en_0 : 0 ≤ P_count.toInt := by first | assumption | omega
      have en_1 : P_count.toInt ≤ 8 := by first | assumption | omega
      exact kk_ei hx hb hr hlocks hK hq [4, 0, 1, 2, 3] (u_19, Y_fulls, P_count, fPT, fPF) rfl (by decide) dX7_push_24 ⟨hf1, hf2, en_0, en_1⟩
def fX7_rest (P_count : Int32) : Int32 × Int32 :=
  (P_count, 0)

set_option maxHeartbeats 4000000 in
set_option maxRecDepth 100000 in
theorem c_X7_rest (l : Launch) (G : va_G) (aY aS aP rY_images rY_kept rY_law rY_reader rY_trial rY_stages rY_row rY_bestRow rS_numbers rS_text rS_child rS_turns rP_ticks rP_forces : Nat) (Y_bestPeak : Int32) (Y_bads : Int32) (Y_noes : Int32) (Y_fulls : Int32) (P_count : Int32) : kCi l yX7_rest (Cond.code yX7_rest cX7_rest 2 (some .int) :: wsL_law) ({ frames := 0, cells := 0, slots := 0, locals := 0 }) G [] [.ref aY] [(aY, .inr (7, [.ref aS, .ref rY_images, .ref rY_kept, .ref rY_law, .ref rY_reader, .ref rY_trial, .ref rY_stages, .ref rY_row, .ref rY_bestRow, .int Y_bestPeak, .int Y_bads, .int Y_noes, .int Y_fulls])), (aS, .inr (4, [.ref rS_numbers, .ref rS_text, .ref aP, .ref rS_child, .ref rS_turns])), (aP, .inr (3, [.ref rP_ticks, .ref rP_forces, .int P_count]))] (fun (r : Int32) (u : Int32) => r = (fX7_rest P_count).1 ∧ u = (fX7_rest P_count).2) (fun (u : Int32) => [(aY, .inr (7, [.ref aS, .ref rY_images, .ref rY_kept, .ref rY_law, .ref rY_reader, .ref rY_trial, .ref rY_stages, .ref rY_row, .ref rY_bestRow, .int Y_bestPeak, .int Y_bads, .int Y_noes, .int Y_fulls])), (aS, .inr (4, [.ref rS_numbers, .ref rS_text, .ref aP, .ref rS_child, .ref rS_turns])), (aP, .inr (3, [.ref rP_ticks, .ref rP_forces, .int u]))]) := by
  intro sz
  refine Met.ofW (cc := cX7_rest) (maxL := 2) (ret := (some .int)) (by decide) rfl ?_
  intro p e s m args below meth c s₁ B hml hv
  obtain ⟨rfl, hv⟩ := hv
  obtain ⟨rfl, hK, hq, hA⟩ := kk_begin hv
  have hx := B.exec
  have hb := B.bytes
  have hr := B.returns
  have hts := atoms_spec (ws := (Cond.code yX7_rest cX7_rest 2 (some .int) :: wsL_law)) B.pre
  have hown : s.vm.findClass RX7 = some m.cls := findClass_of_methodNamed B.named
  have hlocks := B.notSynchronized
  have hsb : ∀ w ∈ wsL_law, w ∈ (Cond.code yX7_rest cX7_rest 2 (some .int) :: wsL_law) := fun _ h => List.mem_cons_of_mem _ h
  generalize va_A [(aY, .inr (7, [.ref aS, .ref rY_images, .ref rY_kept, .ref rY_law, .ref rY_reader, .ref rY_trial, .ref rY_stages, .ref rY_row, .ref rY_bestRow, .int Y_bestPeak, .int Y_bads, .int Y_noes, .int Y_fulls])), (aS, .inr (4, [.ref rS_numbers, .ref rS_text, .ref aP, .ref rS_child, .ref rS_turns])), (aP, .inr (3, [.ref rP_ticks, .ref rP_forces, .int P_count]))] s.heap.size = A at hq hA ⊢
  have iX3 : ∀ w ∈ u_ws RX3 TX3 3, w ∈ (Cond.code yX7_rest cX7_rest 2 (some .int) :: wsL_law) := fun w h => hsb w (bin_X3 w h)
  have iX4 : ∀ w ∈ u_ws RX4 TX4 5, w ∈ (Cond.code yX7_rest cX7_rest 2 (some .int) :: wsL_law) := fun w h => hsb w (bin_X4 w h)
  have iX7 : ∀ w ∈ u_ws RX7 TX7 13, w ∈ (Cond.code yX7_rest cX7_rest 2 (some .int) :: wsL_law) := fun w h => hsb w (bin_X7 w h)
  have lk0_ := hts _ (hsb _ wd_15)
  have lk1_ := hts _ (hsb _ wd_332)
  have lk2_ := hts _ (hsb _ wd_333)
  have hl := lv_entry ([.ref aY]) (n := 2) (Nat.le_of_ble_eq_true rfl)
  rw [lg_entry_eq]
  generalize (lg_sl ([.ref aY]) ++ List.replicate (2 - (lg_sl ([.ref aY])).length) Slot.unset).toArray = ls at hl ⊢
  have hl : lv_has ls 2 [(0, .ref aY)] := hl
  refine lv_aload_n hx hb dX7_rest_0 rfl (lv_at hl 0 rfl) ?_
  refine kk_get (ci := 7) (v := .ref aS) (C := RX7) (T := TX7) (N := 13) hx hb hts iX7 hown hK hq 0 rfl rfl 0 (by decide) lk0_ rfl dX7_rest_1 ?_
  refine kk_get (ci := 4) (v := .ref aP) (C := RX4) (T := TX4) (N := 5) hx hb hts iX4 hown hK hq 1 rfl rfl 2 (by decide) lk1_ rfl dX7_rest_4 ?_
  refine kk_get (ci := 3) (v := .int P_count) (C := RX3) (T := TX3) (N := 3) hx hb hts iX3 hown hK hq 2 rfl rfl 2 (by decide) lk2_ rfl dX7_rest_7 ?_
  refine lv_istore_n (lv' := [(1, .int P_count), (0, .ref aY)]) hx hb dX7_rest_10 rfl hl (by decide) rfl (fun ls hl => ?_)
  refine lv_aload_n hx hb dX7_rest_11 rfl (lv_at hl 1 rfl) ?_
  refine kk_get (ci := 7) (v := .ref aS) (C := RX7) (T := TX7) (N := 13) hx hb hts iX7 hown hK hq 0 rfl rfl 0 (by decide) lk0_ rfl dX7_rest_12 ?_
  refine kk_get (ci := 4) (v := .ref aP) (C := RX4) (T := TX4) (N := 5) hx hb hts iX4 hown hK hq 1 rfl rfl 2 (by decide) lk1_ rfl dX7_rest_15 ?_
  refine lv_iconst (v := 0) hx hb dX7_rest_18 (by decide) ?_
  refine kk_put (ws' := [(aY, .inr (7, [.ref aS, .ref rY_images, .ref rY_kept, .ref rY_law, .ref rY_reader, .ref rY_trial, .ref rY_stages, .ref rY_row, .ref rY_bestRow, .int Y_bestPeak, .int Y_bads, .int Y_noes, .int Y_fulls])), (aS, .inr (4, [.ref rS_numbers, .ref rS_text, .ref aP, .ref rS_child, .ref rS_turns])), (aP, .inr (3, [.ref rP_ticks, .ref rP_forces, .int 0]))]) (ci := 3) (v := .int 0) (C := RX3) (T := TX3) (N := 3) hx hb hts iX3 tyX3_ok nmX3 hown hK hq 2 rfl rfl 2 (by decide) lk2_ rfl rfl rfl (Nat.le_of_ble_eq_true rfl) dX7_rest_19 rfl (fun H locs hq => ?_)
  refine lv_iload_n hx hb dX7_rest_22 rfl (lv_at hl 0 rfl) ?_
  have hf : ((P_count, 0) : Int32 × Int32) = fX7_rest P_count := by
    exact rfl
  have hf1 := congrArg Prod.fst hf
  have hf2 := congrArg Prod.snd hf
  exact kk_ei hx hb hr hlocks hK hq [0, 1, 2] 0 rfl (by decide) dX7_rest_23 ⟨hf1, hf2⟩
theorem hd_X0_beginAnew : yX0_beginAnew.cls = RX0 ∧ yX0_beginAnew.cls ≠ "java/lang/invoke/MethodHandle" ∧ yX0_beginAnew.cls ≠ "java/lang/invoke/VarHandle" ∧ (parseMethodDescriptor yX0_beginAnew.desc).map (fun d => d.parameters.length) = some 1 := by decide +kernel
theorem hd_X6_clear : yX6_clear.cls = RX6 ∧ yX6_clear.cls ≠ "java/lang/invoke/MethodHandle" ∧ yX6_clear.cls ≠ "java/lang/invoke/VarHandle" ∧ (parseMethodDescriptor yX6_clear.desc).map (fun d => d.parameters.length) = some 0 := by decide +kernel
def fX7_begin (p1 : Int32) (Y_bads : Int32) (C_place : Int64) (C_speed : Int64) (C_posture : Int32) (C_since : Int32) (C_height : Int32) (C_ticks : Int32) (C_way : Int32) (C_strength : Int32) (C_drops : Int32) (C_greatestDrop : Int32) (C_otherPlace : Int64) (C_otherSpeed : Int64) (U_count : Int32) : Int32 × Int32 × Int64 × Int64 × Int32 × Int32 × Int32 × Int32 × Int32 × Int32 × Int32 × Int32 × Int64 × Int64 × Int32 :=
  let r_2 : Int32 := fX7_within p1 (-1000000) 1000000
  if r_2 = 0 then (
    let r_12 : Int32 := (fX7_refusedAsBad (-2) Y_bads).1
    let u_11 : Int32 := (fX7_refusedAsBad (-2) Y_bads).2
    (r_12, u_11, C_place, C_speed, C_posture, C_since, C_height, C_ticks, C_way, C_strength, C_drops, C_greatestDrop, C_otherPlace, C_otherSpeed, U_count))
  else (
    let u_5 : Int64 × Int64 × Int32 × Int32 × Int32 × Int32 × Int32 × Int32 × Int32 × Int32 × Int64 × Int64 := fX0_beginAnew p1
    let u_8 : Int32 := fX6_clear
    (1, Y_bads, u_5.1, u_5.2.1, u_5.2.2.1, u_5.2.2.2.1, u_5.2.2.2.2.1, u_5.2.2.2.2.2.1, u_5.2.2.2.2.2.2.1, u_5.2.2.2.2.2.2.2.1, u_5.2.2.2.2.2.2.2.2.1, u_5.2.2.2.2.2.2.2.2.2.1, u_5.2.2.2.2.2.2.2.2.2.2.1, u_5.2.2.2.2.2.2.2.2.2.2.2, u_8))

set_option maxHeartbeats 4000000 in
set_option maxRecDepth 100000 in
theorem c_X7_begin (l : Launch) (G : va_G) (aY aS aC aU rY_images rY_kept rY_law rY_reader rY_trial rY_stages rY_row rY_bestRow rS_numbers rS_text rS_pushes rU_heights : Nat) (p1 : Int32) (Y_bestPeak : Int32) (Y_bads : Int32) (Y_noes : Int32) (Y_fulls : Int32) (C_place : Int64) (C_speed : Int64) (C_posture : Int32) (C_since : Int32) (C_height : Int32) (C_ticks : Int32) (C_way : Int32) (C_strength : Int32) (C_drops : Int32) (C_greatestDrop : Int32) (C_otherPlace : Int64) (C_otherSpeed : Int64) (U_count : Int32) : kCi l yX7_begin (Cond.code yX7_begin cX7_begin 2 (some .int) :: wsL_law) ({ frames := 3, cells := 0, slots := 0, locals := 71 }) G [] [.ref aY, .int p1] [(aY, .inr (7, [.ref aS, .ref rY_images, .ref rY_kept, .ref rY_law, .ref rY_reader, .ref rY_trial, .ref rY_stages, .ref rY_row, .ref rY_bestRow, .int Y_bestPeak, .int Y_bads, .int Y_noes, .int Y_fulls])), (aS, .inr (4, [.ref rS_numbers, .ref rS_text, .ref rS_pushes, .ref aC, .ref aU])), (aC, .inr (0, [.long C_place, .long C_speed, .int C_posture, .int C_since, .int C_height, .int C_ticks, .int C_way, .int C_strength, .int C_drops, .int C_greatestDrop, .long C_otherPlace, .long C_otherSpeed])), (aU, .inr (6, [.ref rU_heights, .int U_count]))] (fun (r : Int32) (u : Int32 × Int64 × Int64 × Int32 × Int32 × Int32 × Int32 × Int32 × Int32 × Int32 × Int32 × Int64 × Int64 × Int32) => r = (fX7_begin p1 Y_bads C_place C_speed C_posture C_since C_height C_ticks C_way C_strength C_drops C_greatestDrop C_otherPlace C_otherSpeed U_count).1 ∧ u = (fX7_begin p1 Y_bads C_place C_speed C_posture C_since C_height C_ticks C_way C_strength C_drops C_greatestDrop C_otherPlace C_otherSpeed U_count).2) (fun (u : Int32 × Int64 × Int64 × Int32 × Int32 × Int32 × Int32 × Int32 × Int32 × Int32 × Int32 × Int64 × Int64 × Int32) => [(aY, .inr (7, [.ref aS, .ref rY_images, .ref rY_kept, .ref rY_law, .ref rY_reader, .ref rY_trial, .ref rY_stages, .ref rY_row, .ref rY_bestRow, .int Y_bestPeak, .int u.1, .int Y_noes, .int Y_fulls])), (aS, .inr (4, [.ref rS_numbers, .ref rS_text, .ref rS_pushes, .ref aC, .ref aU])), (aC, .inr (0, [.long u.2.1, .long u.2.2.1, .int u.2.2.2.1, .int u.2.2.2.2.1, .int u.2.2.2.2.2.1, .int u.2.2.2.2.2.2.1, .int u.2.2.2.2.2.2.2.1, .int u.2.2.2.2.2.2.2.2.1, .int u.2.2.2.2.2.2.2.2.2.1, .int u.2.2.2.2.2.2.2.2.2.2.1, .long u.2.2.2.2.2.2.2.2.2.2.2.1, .long u.2.2.2.2.2.2.2.2.2.2.2.2.1])), (aU, .inr (6, [.ref rU_heights, .int u.2.2.2.2.2.2.2.2.2.2.2.2.2]))]) := by
  intro sz
  refine Met.ofW (cc := cX7_begin) (maxL := 2) (ret := (some .int)) (by decide) rfl ?_
  intro p e s m args below meth c s₁ B hml hv
  obtain ⟨rfl, hv⟩ := hv
  obtain ⟨rfl, hK, hq, hA⟩ := kk_begin hv
  have hx := B.exec
  have hb := B.bytes
  have hr := B.returns
  have hts := atoms_spec (ws := (Cond.code yX7_begin cX7_begin 2 (some .int) :: wsL_law)) B.pre
  have hown : s.vm.findClass RX7 = some m.cls := findClass_of_methodNamed B.named
  have hlocks := B.notSynchronized
  have hsb : ∀ w ∈ wsL_law, w ∈ (Cond.code yX7_begin cX7_begin 2 (some .int) :: wsL_law) := fun _ h => List.mem_cons_of_mem _ h
  generalize va_A [(aY, .inr (7, [.ref aS, .ref rY_images, .ref rY_kept, .ref rY_law, .ref rY_reader, .ref rY_trial, .ref rY_stages, .ref rY_row, .ref rY_bestRow, .int Y_bestPeak, .int Y_bads, .int Y_noes, .int Y_fulls])), (aS, .inr (4, [.ref rS_numbers, .ref rS_text, .ref rS_pushes, .ref aC, .ref aU])), (aC, .inr (0, [.long C_place, .long C_speed, .int C_posture, .int C_since, .int C_height, .int C_ticks, .int C_way, .int C_strength, .int C_drops, .int C_greatestDrop, .long C_otherPlace, .long C_otherSpeed])), (aU, .inr (6, [.ref rU_heights, .int U_count]))] s.heap.size = A at hq hA ⊢
  have iX4 : ∀ w ∈ u_ws RX4 TX4 5, w ∈ (Cond.code yX7_begin cX7_begin 2 (some .int) :: wsL_law) := fun w h => hsb w (bin_X4 w h)
  have iX7 : ∀ w ∈ u_ws RX7 TX7 13, w ∈ (Cond.code yX7_begin cX7_begin 2 (some .int) :: wsL_law) := fun w h => hsb w (bin_X7 w h)
  have lk0_ := hts _ (hsb _ wd_367)
  have lk1_ := hts _ (hsb _ wd_368)
  have lk2_ := hts _ (hsb _ wd_15)
  have lk3_ := hts _ (hsb _ wd_369)
  have lk4_ := hts _ (hsb _ wd_370)
  have hl := lv_entry ([.ref aY, .int p1]) (n := 2) (Nat.le_of_ble_eq_true rfl)
  rw [lg_entry_eq]
  generalize (lg_sl ([.ref aY, .int p1]) ++ List.replicate (2 - (lg_sl ([.ref aY, .int p1])).length) Slot.unset).toArray = ls at hl ⊢
  have hl : lv_has ls 2 [(0, .ref aY), (1, .int p1)] := hl
  refine lv_iload_n hx hb dX7_begin_0 rfl (lv_at hl 1 rfl) ?_
  refine lv_ldc hx hb hown lk0_ dX7_begin_1 ?_
  refine lv_ldc hx hb hown lk1_ dX7_begin_3 ?_
  refine kk_Si (As := [.int p1, .int (-1000000), .int 1000000]) (rest := []) (wr := [(aY, .inr (7, [.ref aS, .ref rY_images, .ref rY_kept, .ref rY_law, .ref rY_reader, .ref rY_trial, .ref rY_stages, .ref rY_row, .ref rY_bestRow, .int Y_bestPeak, .int Y_bads, .int Y_noes, .int Y_fulls])), (aS, .inr (4, [.ref rS_numbers, .ref rS_text, .ref rS_pushes, .ref aC, .ref aU])), (aC, .inr (0, [.long C_place, .long C_speed, .int C_posture, .int C_since, .int C_height, .int C_ticks, .int C_way, .int C_strength, .int C_drops, .int C_greatestDrop, .long C_otherPlace, .long C_otherSpeed])), (aU, .inr (6, [.ref rU_heights, .int U_count]))]) ⟨hx, hb, hml, hown, hts⟩ (c_X7_within l G p1 (-1000000) 1000000) (kk_cwS 3 hts hsb wd_136 wd_137 wd_2 wd_138 rfl rfl hd_X7_within ⟨Nat.le_of_ble_eq_true rfl, Nat.le_of_ble_eq_true rfl⟩) hA hK hq [] [0, 1, 2, 3] [] rfl rfl rfl (by decide) (by decide) (by decide) rfl hl.1 rfl (Nat.le_of_ble_eq_true rfl) dX7_begin_5 ⟨Nat.zero_le _, Nat.zero_le _⟩ (fun r_2 u_1 H locs h_3 hq => ?_)
  obtain ⟨er_2, zr_2⟩ := h_3
  have hq : kAt G A s [(aY, .inr (7, [.ref aS, .ref rY_images, .ref rY_kept, .ref rY_law, .ref rY_reader, .ref rY_trial, .ref rY_stages, .ref rY_row, .ref rY_bestRow, .int Y_bestPeak, .int Y_bads, .int Y_noes, .int Y_fulls])), (aS, .inr (4, [.ref rS_numbers, .ref rS_text, .ref rS_pushes, .ref aC, .ref aU])), (aC, .inr (0, [.long C_place, .long C_speed, .int C_posture, .int C_since, .int C_height, .int C_ticks, .int C_way, .int C_strength, .int C_drops, .int C_greatestDrop, .long C_otherPlace, .long C_otherSpeed])), (aU, .inr (6, [.ref rU_heights, .int U_count]))] H locs := hq
  refine lv_if_ne (tgt := 18) hx hb dX7_begin_8 (by decide) (fun c_4 => ?_) (fun c_4 => ?_)
  · skip
    refine lv_aload_n hx hb dX7_begin_18 rfl (lv_at hl 0 rfl) ?_
    refine kk_get (ci := 7) (v := .ref aS) (C := RX7) (T := TX7) (N := 13) hx hb hts iX7 hown hK hq 0 rfl rfl 0 (by decide) lk2_ rfl dX7_begin_19 ?_
    refine kk_get (ci := 4) (v := .ref aC) (C := RX4) (T := TX4) (N := 5) hx hb hts iX4 hown hK hq 1 rfl rfl 3 (by decide) lk3_ rfl dX7_begin_22 ?_
    refine lv_iload_n hx hb dX7_begin_25 rfl (lv_at hl 1 rfl) ?_
    refine kk_Vv (As := [.int p1]) (rest := []) (wr := [(aY, .inr (7, [.ref aS, .ref rY_images, .ref rY_kept, .ref rY_law, .ref rY_reader, .ref rY_trial, .ref rY_stages, .ref rY_row, .ref rY_bestRow, .int Y_bestPeak, .int Y_bads, .int Y_noes, .int Y_fulls])), (aS, .inr (4, [.ref rS_numbers, .ref rS_text, .ref rS_pushes, .ref aC, .ref aU])), (aU, .inr (6, [.ref rU_heights, .int U_count]))]) ⟨hx, hb, hml, hown, hts⟩ (c_X0_beginAnew l G aC p1 C_place C_speed C_posture C_since C_height C_ticks C_way C_strength C_drops C_greatestDrop C_otherPlace C_otherSpeed) (kk_cwV 1 hts hsb wd_371 wd_372 wd_373 wd_30 wd_374 rfl rfl hd_X0_beginAnew ⟨Nat.le_of_ble_eq_true rfl, Nat.le_of_ble_eq_true rfl⟩) hA hK hq [2] [0, 1, 3] [] rfl rfl rfl (by decide) (by decide) (by decide) 0 0 rfl rfl rfl rfl hl.1 rfl (Nat.le_of_ble_eq_true rfl) dX7_begin_26 ⟨Nat.zero_le _, Nat.zero_le _⟩ (fun u_5 H locs h_7 hq => ?_)
    have eu_5 := h_7
    have hq : kAt G A s [(aY, .inr (7, [.ref aS, .ref rY_images, .ref rY_kept, .ref rY_law, .ref rY_reader, .ref rY_trial, .ref rY_stages, .ref rY_row, .ref rY_bestRow, .int Y_bestPeak, .int Y_bads, .int Y_noes, .int Y_fulls])), (aS, .inr (4, [.ref rS_numbers, .ref rS_text, .ref rS_pushes, .ref aC, .ref aU])), (aU, .inr (6, [.ref rU_heights, .int U_count])), (aC, .inr (0, [.long u_5.1, .long u_5.2.1, .int u_5.2.2.1, .int u_5.2.2.2.1, .int u_5.2.2.2.2.1, .int u_5.2.2.2.2.2.1, .int u_5.2.2.2.2.2.2.1, .int u_5.2.2.2.2.2.2.2.1, .int u_5.2.2.2.2.2.2.2.2.1, .int u_5.2.2.2.2.2.2.2.2.2.1, .long u_5.2.2.2.2.2.2.2.2.2.2.1, .long u_5.2.2.2.2.2.2.2.2.2.2.2]))] H locs := hq
    refine lv_aload_n hx hb dX7_begin_29 rfl (lv_at hl 0 rfl) ?_
    refine kk_get (ci := 7) (v := .ref aS) (C := RX7) (T := TX7) (N := 13) hx hb hts iX7 hown hK hq 0 rfl rfl 0 (by decide) lk2_ rfl dX7_begin_30 ?_
    refine kk_get (ci := 4) (v := .ref aU) (C := RX4) (T := TX4) (N := 5) hx hb hts iX4 hown hK hq 1 rfl rfl 4 (by decide) lk4_ rfl dX7_begin_33 ?_
    refine kk_Vv (As := []) (rest := []) (wr := [(aY, .inr (7, [.ref aS, .ref rY_images, .ref rY_kept, .ref rY_law, .ref rY_reader, .ref rY_trial, .ref rY_stages, .ref rY_row, .ref rY_bestRow, .int Y_bestPeak, .int Y_bads, .int Y_noes, .int Y_fulls])), (aS, .inr (4, [.ref rS_numbers, .ref rS_text, .ref rS_pushes, .ref aC, .ref aU])), (aC, .inr (0, [.long u_5.1, .long u_5.2.1, .int u_5.2.2.1, .int u_5.2.2.2.1, .int u_5.2.2.2.2.1, .int u_5.2.2.2.2.2.1, .int u_5.2.2.2.2.2.2.1, .int u_5.2.2.2.2.2.2.2.1, .int u_5.2.2.2.2.2.2.2.2.1, .int u_5.2.2.2.2.2.2.2.2.2.1, .long u_5.2.2.2.2.2.2.2.2.2.2.1, .long u_5.2.2.2.2.2.2.2.2.2.2.2]))]) ⟨hx, hb, hml, hown, hts⟩ (c_X6_clear l G aU rU_heights U_count) (kk_cwV 0 hts hsb wd_387 wd_388 wd_389 wd_62 wd_390 rfl rfl hd_X6_clear ⟨Nat.le_of_ble_eq_true rfl, Nat.le_of_ble_eq_true rfl⟩) hA hK hq [2] [0, 1, 3] [] rfl rfl rfl (by decide) (by decide) (by decide) 0 6 rfl rfl rfl rfl hl.1 rfl (Nat.le_of_ble_eq_true rfl) dX7_begin_36 ⟨Nat.zero_le _, Nat.zero_le _⟩ (fun u_8 H locs h_10 hq => ?_)
    have eu_8 := h_10
    have hq : kAt G A s [(aY, .inr (7, [.ref aS, .ref rY_images, .ref rY_kept, .ref rY_law, .ref rY_reader, .ref rY_trial, .ref rY_stages, .ref rY_row, .ref rY_bestRow, .int Y_bestPeak, .int Y_bads, .int Y_noes, .int Y_fulls])), (aS, .inr (4, [.ref rS_numbers, .ref rS_text, .ref rS_pushes, .ref aC, .ref aU])), (aC, .inr (0, [.long u_5.1, .long u_5.2.1, .int u_5.2.2.1, .int u_5.2.2.2.1, .int u_5.2.2.2.2.1, .int u_5.2.2.2.2.2.1, .int u_5.2.2.2.2.2.2.1, .int u_5.2.2.2.2.2.2.2.1, .int u_5.2.2.2.2.2.2.2.2.1, .int u_5.2.2.2.2.2.2.2.2.2.1, .long u_5.2.2.2.2.2.2.2.2.2.2.1, .long u_5.2.2.2.2.2.2.2.2.2.2.2])), (aU, .inr (6, [.ref rU_heights, .int u_8]))] H locs := hq
    refine lv_iconst (v := 1) hx hb dX7_begin_39 (by decide) ?_
    have hf : ((1, Y_bads, u_5.1, u_5.2.1, u_5.2.2.1, u_5.2.2.2.1, u_5.2.2.2.2.1, u_5.2.2.2.2.2.1, u_5.2.2.2.2.2.2.1, u_5.2.2.2.2.2.2.2.1, u_5.2.2.2.2.2.2.2.2.1, u_5.2.2.2.2.2.2.2.2.2.1, u_5.2.2.2.2.2.2.2.2.2.2.1, u_5.2.2.2.2.2.2.2.2.2.2.2, u_8) : Int32 × Int32 × Int64 × Int64 × Int32 × Int32 × Int32 × Int32 × Int32 × Int32 × Int32 × Int32 × Int64 × Int64 × Int32) = fX7_begin p1 Y_bads C_place C_speed C_posture C_since C_height C_ticks C_way C_strength C_drops C_greatestDrop C_otherPlace C_otherSpeed U_count := by
      exact ((congrArg (fun (r_2 : Int32) => ((if r_2 = 0 then (
    let r_12 : Int32 := (fX7_refusedAsBad (-2) Y_bads).1
    let u_11 : Int32 := (fX7_refusedAsBad (-2) Y_bads).2
    (r_12, u_11, C_place, C_speed, C_posture, C_since, C_height, C_ticks, C_way, C_strength, C_drops, C_greatestDrop, C_otherPlace, C_otherSpeed, U_count))
  else (
    let u_5 : Int64 × Int64 × Int32 × Int32 × Int32 × Int32 × Int32 × Int32 × Int32 × Int32 × Int64 × Int64 := fX0_beginAnew p1
    let u_8 : Int32 := fX6_clear
    (1, Y_bads, u_5.1, u_5.2.1, u_5.2.2.1, u_5.2.2.2.1, u_5.2.2.2.2.1, u_5.2.2.2.2.2.1, u_5.2.2.2.2.2.2.1, u_5.2.2.2.2.2.2.2.1, u_5.2.2.2.2.2.2.2.2.1, u_5.2.2.2.2.2.2.2.2.2.1, u_5.2.2.2.2.2.2.2.2.2.2.1, u_5.2.2.2.2.2.2.2.2.2.2.2, u_8))) : Int32 × Int32 × Int64 × Int64 × Int32 × Int32 × Int32 × Int32 × Int32 × Int32 × Int32 × Int32 × Int64 × Int64 × Int32)) er_2.symm).trans ((if_neg c_4).trans ((congrArg (fun (u_5 : Int64 × Int64 × Int32 × Int32 × Int32 × Int32 × Int32 × Int32 × Int32 × Int32 × Int64 × Int64) => ((let u_8 : Int32 := fX6_clear
  (1, Y_bads, u_5.1, u_5.2.1, u_5.2.2.1, u_5.2.2.2.1, u_5.2.2.2.2.1, u_5.2.2.2.2.2.1, u_5.2.2.2.2.2.2.1, u_5.2.2.2.2.2.2.2.1, u_5.2.2.2.2.2.2.2.2.1, u_5.2.2.2.2.2.2.2.2.2.1, u_5.2.2.2.2.2.2.2.2.2.2.1, u_5.2.2.2.2.2.2.2.2.2.2.2, u_8)) : Int32 × Int32 × Int64 × Int64 × Int32 × Int32 × Int32 × Int32 × Int32 × Int32 × Int32 × Int32 × Int64 × Int64 × Int32)) eu_5.symm).trans ((congrArg (fun (u_8 : Int32) => (((1, Y_bads, u_5.1, u_5.2.1, u_5.2.2.1, u_5.2.2.2.1, u_5.2.2.2.2.1, u_5.2.2.2.2.2.1, u_5.2.2.2.2.2.2.1, u_5.2.2.2.2.2.2.2.1, u_5.2.2.2.2.2.2.2.2.1, u_5.2.2.2.2.2.2.2.2.2.1, u_5.2.2.2.2.2.2.2.2.2.2.1, u_5.2.2.2.2.2.2.2.2.2.2.2, u_8)) : Int32 × Int32 × Int64 × Int64 × Int32 × Int32 × Int32 × Int32 × Int32 × Int32 × Int32 × Int32 × Int64 × Int64 × Int32)) eu_8.symm))))).symm
    have hf1 := congrArg Prod.fst hf
    have hf2 := congrArg Prod.snd hf
    exact kk_ei hx hb hr hlocks hK hq [0, 1, 2, 3] (Y_bads, u_5.1, u_5.2.1, u_5.2.2.1, u_5.2.2.2.1, u_5.2.2.2.2.1, u_5.2.2.2.2.2.1, u_5.2.2.2.2.2.2.1, u_5.2.2.2.2.2.2.2.1, u_5.2.2.2.2.2.2.2.2.1, u_5.2.2.2.2.2.2.2.2.2.1, u_5.2.2.2.2.2.2.2.2.2.2.1, u_5.2.2.2.2.2.2.2.2.2.2.2, u_8) rfl (by decide) dX7_begin_40 ⟨hf1, hf2⟩
  · skip
    refine lv_aload_n hx hb dX7_begin_11 rfl (lv_at hl 0 rfl) ?_
    refine lv_bipush (v := -2) hx hb dX7_begin_12 (by decide) ?_
    refine kk_Vi (As := [.int (-2)]) (rest := []) (wr := [(aS, .inr (4, [.ref rS_numbers, .ref rS_text, .ref rS_pushes, .ref aC, .ref aU])), (aC, .inr (0, [.long C_place, .long C_speed, .int C_posture, .int C_since, .int C_height, .int C_ticks, .int C_way, .int C_strength, .int C_drops, .int C_greatestDrop, .long C_otherPlace, .long C_otherSpeed])), (aU, .inr (6, [.ref rU_heights, .int U_count]))]) ⟨hx, hb, hml, hown, hts⟩ (c_X7_refusedAsBad l G aY aS rY_images rY_kept rY_law rY_reader rY_trial rY_stages rY_row rY_bestRow (-2) Y_bestPeak Y_bads Y_noes Y_fulls) (kk_cwV 1 hts hsb wd_139 wd_140 wd_141 wd_2 wd_142 rfl rfl hd_X7_refusedAsBad ⟨Nat.le_of_ble_eq_true rfl, Nat.le_of_ble_eq_true rfl⟩) hA hK hq [0] [1, 2, 3] [] rfl rfl rfl (by decide) (by decide) (by decide) 0 7 rfl rfl rfl rfl hl.1 rfl (Nat.le_of_ble_eq_true rfl) dX7_begin_14 ⟨Nat.zero_le _, Nat.zero_le _⟩ (fun r_12 u_11 H locs h_13 hq => ?_)
    obtain ⟨er_12, eu_11⟩ := h_13
    have hq : kAt G A s [(aS, .inr (4, [.ref rS_numbers, .ref rS_text, .ref rS_pushes, .ref aC, .ref aU])), (aC, .inr (0, [.long C_place, .long C_speed, .int C_posture, .int C_since, .int C_height, .int C_ticks, .int C_way, .int C_strength, .int C_drops, .int C_greatestDrop, .long C_otherPlace, .long C_otherSpeed])), (aU, .inr (6, [.ref rU_heights, .int U_count])), (aY, .inr (7, [.ref aS, .ref rY_images, .ref rY_kept, .ref rY_law, .ref rY_reader, .ref rY_trial, .ref rY_stages, .ref rY_row, .ref rY_bestRow, .int Y_bestPeak, .int u_11, .int Y_noes, .int Y_fulls]))] H locs := hq
    have hf : ((r_12, u_11, C_place, C_speed, C_posture, C_since, C_height, C_ticks, C_way, C_strength, C_drops, C_greatestDrop, C_otherPlace, C_otherSpeed, U_count) : Int32 × Int32 × Int64 × Int64 × Int32 × Int32 × Int32 × Int32 × Int32 × Int32 × Int32 × Int32 × Int64 × Int64 × Int32) = fX7_begin p1 Y_bads C_place C_speed C_posture C_since C_height C_ticks C_way C_strength C_drops C_greatestDrop C_otherPlace C_otherSpeed U_count := by
      exact ((congrArg (fun (r_2 : Int32) => ((if r_2 = 0 then (
    let r_12 : Int32 := (fX7_refusedAsBad (-2) Y_bads).1
    let u_11 : Int32 := (fX7_refusedAsBad (-2) Y_bads).2
    (r_12, u_11, C_place, C_speed, C_posture, C_since, C_height, C_ticks, C_way, C_strength, C_drops, C_greatestDrop, C_otherPlace, C_otherSpeed, U_count))
  else (
    let u_5 : Int64 × Int64 × Int32 × Int32 × Int32 × Int32 × Int32 × Int32 × Int32 × Int32 × Int64 × Int64 := fX0_beginAnew p1
    let u_8 : Int32 := fX6_clear
    (1, Y_bads, u_5.1, u_5.2.1, u_5.2.2.1, u_5.2.2.2.1, u_5.2.2.2.2.1, u_5.2.2.2.2.2.1, u_5.2.2.2.2.2.2.1, u_5.2.2.2.2.2.2.2.1, u_5.2.2.2.2.2.2.2.2.1, u_5.2.2.2.2.2.2.2.2.2.1, u_5.2.2.2.2.2.2.2.2.2.2.1, u_5.2.2.2.2.2.2.2.2.2.2.2, u_8))) : Int32 × Int32 × Int64 × Int64 × Int32 × Int32 × Int32 × Int32 × Int32 × Int32 × Int32 × Int32 × Int64 × Int64 × Int32)) er_2.symm).trans ((if_pos c_4).trans ((congrArg (fun (r_12 : Int32) => ((let u_11 : Int32 := (fX7_refusedAsBad (-2) Y_bads).2
  (r_12, u_11, C_place, C_speed, C_posture, C_since, C_height, C_ticks, C_way, C_strength, C_drops, C_greatestDrop, C_otherPlace, C_otherSpeed, U_count)) : Int32 × Int32 × Int64 × Int64 × Int32 × Int32 × Int32 × Int32 × Int32 × Int32 × Int32 × Int32 × Int64 × Int64 × Int32)) er_12.symm).trans ((congrArg (fun (u_11 : Int32) => (((r_12, u_11, C_place, C_speed, C_posture, C_since, C_height, C_ticks, C_way, C_strength, C_drops, C_greatestDrop, C_otherPlace, C_otherSpeed, U_count)) : Int32 × Int32 × Int64 × Int64 × Int32 × Int32 × Int32 × Int32 × Int32 × Int32 × Int32 × Int32 × Int64 × Int64 × Int32)) eu_11.symm))))).symm
    have hf1 := congrArg Prod.fst hf
    have hf2 := congrArg Prod.snd hf
    exact kk_ei hx hb hr hlocks hK hq [3, 0, 1, 2] (u_11, C_place, C_speed, C_posture, C_since, C_height, C_ticks, C_way, C_strength, C_drops, C_greatestDrop, C_otherPlace, C_otherSpeed, U_count) rfl (by decide) dX7_begin_17 ⟨hf1, hf2⟩
theorem hd_X7_valueTold : yX7_valueTold.cls = RX7 ∧ yX7_valueTold.cls ≠ "java/lang/invoke/MethodHandle" ∧ yX7_valueTold.cls ≠ "java/lang/invoke/VarHandle" ∧ (parseMethodDescriptor yX7_valueTold.desc).map (fun d => d.parameters.length) = some 1 := by decide +kernel
def fX7_told (p1 : Int32) (Y_bads : Int32) (C_place : Int64) (C_speed : Int64) (C_posture : Int32) (C_since : Int32) (C_height : Int32) (C_ticks : Int32) (C_strength : Int32) (C_drops : Int32) (C_greatestDrop : Int32) (C_otherPlace : Int64) (C_otherSpeed : Int64) (U_count : Int32) : Int32 × Int32 :=
  let r_2 : Int32 := fX7_within p1 0 11
  if r_2 = 0 then (
    let r_6 : Int32 := (fX7_refusedAsBad (-10000000) Y_bads).1
    let u_5 : Int32 := (fX7_refusedAsBad (-10000000) Y_bads).2
    (r_6, u_5))
  else (
    let r_9 : Int32 := fX7_valueTold p1 C_place C_speed C_posture C_since C_height C_ticks C_strength C_drops C_greatestDrop C_otherPlace C_otherSpeed U_count
    (r_9, Y_bads))

set_option maxHeartbeats 4000000 in
set_option maxRecDepth 100000 in
theorem c_X7_told (l : Launch) (G : va_G) (aY aS aC aU rY_images rY_kept rY_law rY_reader rY_trial rY_stages rY_row rY_bestRow rS_numbers rS_text rS_pushes rU_heights : Nat) (p1 : Int32) (Y_bestPeak : Int32) (Y_bads : Int32) (Y_noes : Int32) (Y_fulls : Int32) (C_place : Int64) (C_speed : Int64) (C_posture : Int32) (C_since : Int32) (C_height : Int32) (C_ticks : Int32) (C_way : Int32) (C_strength : Int32) (C_drops : Int32) (C_greatestDrop : Int32) (C_otherPlace : Int64) (C_otherSpeed : Int64) (U_count : Int32) : kCi l yX7_told (Cond.code yX7_told cX7_told 2 (some .int) :: wsL_law) ({ frames := 2, cells := 0, slots := 0, locals := 42 }) G [] [.ref aY, .int p1] [(aY, .inr (7, [.ref aS, .ref rY_images, .ref rY_kept, .ref rY_law, .ref rY_reader, .ref rY_trial, .ref rY_stages, .ref rY_row, .ref rY_bestRow, .int Y_bestPeak, .int Y_bads, .int Y_noes, .int Y_fulls])), (aS, .inr (4, [.ref rS_numbers, .ref rS_text, .ref rS_pushes, .ref aC, .ref aU])), (aC, .inr (0, [.long C_place, .long C_speed, .int C_posture, .int C_since, .int C_height, .int C_ticks, .int C_way, .int C_strength, .int C_drops, .int C_greatestDrop, .long C_otherPlace, .long C_otherSpeed])), (aU, .inr (6, [.ref rU_heights, .int U_count]))] (fun (r : Int32) (u : Int32) => r = (fX7_told p1 Y_bads C_place C_speed C_posture C_since C_height C_ticks C_strength C_drops C_greatestDrop C_otherPlace C_otherSpeed U_count).1 ∧ u = (fX7_told p1 Y_bads C_place C_speed C_posture C_since C_height C_ticks C_strength C_drops C_greatestDrop C_otherPlace C_otherSpeed U_count).2) (fun (u : Int32) => [(aY, .inr (7, [.ref aS, .ref rY_images, .ref rY_kept, .ref rY_law, .ref rY_reader, .ref rY_trial, .ref rY_stages, .ref rY_row, .ref rY_bestRow, .int Y_bestPeak, .int u, .int Y_noes, .int Y_fulls])), (aS, .inr (4, [.ref rS_numbers, .ref rS_text, .ref rS_pushes, .ref aC, .ref aU])), (aC, .inr (0, [.long C_place, .long C_speed, .int C_posture, .int C_since, .int C_height, .int C_ticks, .int C_way, .int C_strength, .int C_drops, .int C_greatestDrop, .long C_otherPlace, .long C_otherSpeed])), (aU, .inr (6, [.ref rU_heights, .int U_count]))]) := by
  intro sz
  refine Met.ofW (cc := cX7_told) (maxL := 2) (ret := (some .int)) (by decide) rfl ?_
  intro p e s m args below meth c s₁ B hml hv
  obtain ⟨rfl, hv⟩ := hv
  obtain ⟨rfl, hK, hq, hA⟩ := kk_begin hv
  have hx := B.exec
  have hb := B.bytes
  have hr := B.returns
  have hts := atoms_spec (ws := (Cond.code yX7_told cX7_told 2 (some .int) :: wsL_law)) B.pre
  have hown : s.vm.findClass RX7 = some m.cls := findClass_of_methodNamed B.named
  have hlocks := B.notSynchronized
  have hsb : ∀ w ∈ wsL_law, w ∈ (Cond.code yX7_told cX7_told 2 (some .int) :: wsL_law) := fun _ h => List.mem_cons_of_mem _ h
  generalize va_A [(aY, .inr (7, [.ref aS, .ref rY_images, .ref rY_kept, .ref rY_law, .ref rY_reader, .ref rY_trial, .ref rY_stages, .ref rY_row, .ref rY_bestRow, .int Y_bestPeak, .int Y_bads, .int Y_noes, .int Y_fulls])), (aS, .inr (4, [.ref rS_numbers, .ref rS_text, .ref rS_pushes, .ref aC, .ref aU])), (aC, .inr (0, [.long C_place, .long C_speed, .int C_posture, .int C_since, .int C_height, .int C_ticks, .int C_way, .int C_strength, .int C_drops, .int C_greatestDrop, .long C_otherPlace, .long C_otherSpeed])), (aU, .inr (6, [.ref rU_heights, .int U_count]))] s.heap.size = A at hq hA ⊢
  have lk0_ := hts _ (hsb _ wd_575)
  have hl := lv_entry ([.ref aY, .int p1]) (n := 2) (Nat.le_of_ble_eq_true rfl)
  rw [lg_entry_eq]
  generalize (lg_sl ([.ref aY, .int p1]) ++ List.replicate (2 - (lg_sl ([.ref aY, .int p1])).length) Slot.unset).toArray = ls at hl ⊢
  have hl : lv_has ls 2 [(0, .ref aY), (1, .int p1)] := hl
  refine lv_iload_n hx hb dX7_told_0 rfl (lv_at hl 1 rfl) ?_
  refine lv_iconst (v := 0) hx hb dX7_told_1 (by decide) ?_
  refine lv_bipush (v := 11) hx hb dX7_told_2 (by decide) ?_
  refine kk_Si (As := [.int p1, .int 0, .int 11]) (rest := []) (wr := [(aY, .inr (7, [.ref aS, .ref rY_images, .ref rY_kept, .ref rY_law, .ref rY_reader, .ref rY_trial, .ref rY_stages, .ref rY_row, .ref rY_bestRow, .int Y_bestPeak, .int Y_bads, .int Y_noes, .int Y_fulls])), (aS, .inr (4, [.ref rS_numbers, .ref rS_text, .ref rS_pushes, .ref aC, .ref aU])), (aC, .inr (0, [.long C_place, .long C_speed, .int C_posture, .int C_since, .int C_height, .int C_ticks, .int C_way, .int C_strength, .int C_drops, .int C_greatestDrop, .long C_otherPlace, .long C_otherSpeed])), (aU, .inr (6, [.ref rU_heights, .int U_count]))]) ⟨hx, hb, hml, hown, hts⟩ (c_X7_within l G p1 0 11) (kk_cwS 3 hts hsb wd_136 wd_137 wd_2 wd_138 rfl rfl hd_X7_within ⟨Nat.le_of_ble_eq_true rfl, Nat.le_of_ble_eq_true rfl⟩) hA hK hq [] [0, 1, 2, 3] [] rfl rfl rfl (by decide) (by decide) (by decide) rfl hl.1 rfl (Nat.le_of_ble_eq_true rfl) dX7_told_4 ⟨Nat.zero_le _, Nat.zero_le _⟩ (fun r_2 u_1 H locs h_3 hq => ?_)
  obtain ⟨er_2, zr_2⟩ := h_3
  have hq : kAt G A s [(aY, .inr (7, [.ref aS, .ref rY_images, .ref rY_kept, .ref rY_law, .ref rY_reader, .ref rY_trial, .ref rY_stages, .ref rY_row, .ref rY_bestRow, .int Y_bestPeak, .int Y_bads, .int Y_noes, .int Y_fulls])), (aS, .inr (4, [.ref rS_numbers, .ref rS_text, .ref rS_pushes, .ref aC, .ref aU])), (aC, .inr (0, [.long C_place, .long C_speed, .int C_posture, .int C_since, .int C_height, .int C_ticks, .int C_way, .int C_strength, .int C_drops, .int C_greatestDrop, .long C_otherPlace, .long C_otherSpeed])), (aU, .inr (6, [.ref rU_heights, .int U_count]))] H locs := hq
  refine lv_if_eq (tgt := 18) hx hb dX7_told_7 (by decide) (fun c_4 => ?_) (fun c_4 => ?_)
  · skip
    refine lv_aload_n hx hb dX7_told_18 rfl (lv_at hl 0 rfl) ?_
    refine lv_ldc hx hb hown lk0_ dX7_told_19 ?_
    refine kk_Vi (As := [.int (-10000000)]) (rest := []) (wr := [(aS, .inr (4, [.ref rS_numbers, .ref rS_text, .ref rS_pushes, .ref aC, .ref aU])), (aC, .inr (0, [.long C_place, .long C_speed, .int C_posture, .int C_since, .int C_height, .int C_ticks, .int C_way, .int C_strength, .int C_drops, .int C_greatestDrop, .long C_otherPlace, .long C_otherSpeed])), (aU, .inr (6, [.ref rU_heights, .int U_count]))]) ⟨hx, hb, hml, hown, hts⟩ (c_X7_refusedAsBad l G aY aS rY_images rY_kept rY_law rY_reader rY_trial rY_stages rY_row rY_bestRow (-10000000) Y_bestPeak Y_bads Y_noes Y_fulls) (kk_cwV 1 hts hsb wd_139 wd_140 wd_141 wd_2 wd_142 rfl rfl hd_X7_refusedAsBad ⟨Nat.le_of_ble_eq_true rfl, Nat.le_of_ble_eq_true rfl⟩) hA hK hq [0] [1, 2, 3] [] rfl rfl rfl (by decide) (by decide) (by decide) 0 7 rfl rfl rfl rfl hl.1 rfl (Nat.le_of_ble_eq_true rfl) dX7_told_21 ⟨Nat.zero_le _, Nat.zero_le _⟩ (fun r_6 u_5 H locs h_7 hq => ?_)
    obtain ⟨er_6, eu_5⟩ := h_7
    have hq : kAt G A s [(aS, .inr (4, [.ref rS_numbers, .ref rS_text, .ref rS_pushes, .ref aC, .ref aU])), (aC, .inr (0, [.long C_place, .long C_speed, .int C_posture, .int C_since, .int C_height, .int C_ticks, .int C_way, .int C_strength, .int C_drops, .int C_greatestDrop, .long C_otherPlace, .long C_otherSpeed])), (aU, .inr (6, [.ref rU_heights, .int U_count])), (aY, .inr (7, [.ref aS, .ref rY_images, .ref rY_kept, .ref rY_law, .ref rY_reader, .ref rY_trial, .ref rY_stages, .ref rY_row, .ref rY_bestRow, .int Y_bestPeak, .int u_5, .int Y_noes, .int Y_fulls]))] H locs := hq
    have hf : ((r_6, u_5) : Int32 × Int32) = fX7_told p1 Y_bads C_place C_speed C_posture C_since C_height C_ticks C_strength C_drops C_greatestDrop C_otherPlace C_otherSpeed U_count := by
      exact ((congrArg (fun (r_2 : Int32) => ((if r_2 = 0 then (
    let r_6 : Int32 := (fX7_refusedAsBad (-10000000) Y_bads).1
    let u_5 : Int32 := (fX7_refusedAsBad (-10000000) Y_bads).2
    (r_6, u_5))
  else (
    let r_9 : Int32 := fX7_valueTold p1 C_place C_speed C_posture C_since C_height C_ticks C_strength C_drops C_greatestDrop C_otherPlace C_otherSpeed U_count
    (r_9, Y_bads))) : Int32 × Int32)) er_2.symm).trans ((if_pos c_4).trans ((congrArg (fun (r_6 : Int32) => ((let u_5 : Int32 := (fX7_refusedAsBad (-10000000) Y_bads).2
  (r_6, u_5)) : Int32 × Int32)) er_6.symm).trans ((congrArg (fun (u_5 : Int32) => (((r_6, u_5)) : Int32 × Int32)) eu_5.symm))))).symm
    have hf1 := congrArg Prod.fst hf
    have hf2 := congrArg Prod.snd hf
    exact kk_ei hx hb hr hlocks hK hq [3, 0, 1, 2] u_5 rfl (by decide) dX7_told_24 ⟨hf1, hf2⟩
  · skip
    refine lv_aload_n hx hb dX7_told_10 rfl (lv_at hl 0 rfl) ?_
    refine lv_iload_n hx hb dX7_told_11 rfl (lv_at hl 1 rfl) ?_
    refine kk_Vi (As := [.int p1]) (rest := []) (wr := []) ⟨hx, hb, hml, hown, hts⟩ (c_X7_valueTold l G aY aS aC aU rY_images rY_kept rY_law rY_reader rY_trial rY_stages rY_row rY_bestRow rS_numbers rS_text rS_pushes rU_heights p1 Y_bestPeak Y_bads Y_noes Y_fulls C_place C_speed C_posture C_since C_height C_ticks C_way C_strength C_drops C_greatestDrop C_otherPlace C_otherSpeed U_count) (kk_cwV 1 hts hsb wd_576 wd_577 wd_578 wd_2 wd_579 rfl rfl hd_X7_valueTold ⟨Nat.le_of_ble_eq_true rfl, Nat.le_of_ble_eq_true rfl⟩) hA hK hq [0, 1, 2, 3] [] [] rfl rfl rfl (by decide) (by decide) (by decide) 0 7 rfl rfl rfl rfl hl.1 rfl (Nat.le_of_ble_eq_true rfl) dX7_told_12 ⟨Nat.zero_le _, Nat.zero_le _⟩ (fun r_9 u_8 H locs h_10 hq => ?_)
    have er_9 := h_10
    have hq : kAt G A s [(aY, .inr (7, [.ref aS, .ref rY_images, .ref rY_kept, .ref rY_law, .ref rY_reader, .ref rY_trial, .ref rY_stages, .ref rY_row, .ref rY_bestRow, .int Y_bestPeak, .int Y_bads, .int Y_noes, .int Y_fulls])), (aS, .inr (4, [.ref rS_numbers, .ref rS_text, .ref rS_pushes, .ref aC, .ref aU])), (aC, .inr (0, [.long C_place, .long C_speed, .int C_posture, .int C_since, .int C_height, .int C_ticks, .int C_way, .int C_strength, .int C_drops, .int C_greatestDrop, .long C_otherPlace, .long C_otherSpeed])), (aU, .inr (6, [.ref rU_heights, .int U_count]))] H locs := hq
    refine lv_goto (tgt := 24) hx hb dX7_told_15 (by decide) ?_
    have hf : ((r_9, Y_bads) : Int32 × Int32) = fX7_told p1 Y_bads C_place C_speed C_posture C_since C_height C_ticks C_strength C_drops C_greatestDrop C_otherPlace C_otherSpeed U_count := by
      exact ((congrArg (fun (r_2 : Int32) => ((if r_2 = 0 then (
    let r_6 : Int32 := (fX7_refusedAsBad (-10000000) Y_bads).1
    let u_5 : Int32 := (fX7_refusedAsBad (-10000000) Y_bads).2
    (r_6, u_5))
  else (
    let r_9 : Int32 := fX7_valueTold p1 C_place C_speed C_posture C_since C_height C_ticks C_strength C_drops C_greatestDrop C_otherPlace C_otherSpeed U_count
    (r_9, Y_bads))) : Int32 × Int32)) er_2.symm).trans ((if_neg c_4).trans ((congrArg (fun (r_9 : Int32) => (((r_9, Y_bads)) : Int32 × Int32)) er_9.symm)))).symm
    have hf1 := congrArg Prod.fst hf
    have hf2 := congrArg Prod.snd hf
    exact kk_ei hx hb hr hlocks hK hq [0, 1, 2, 3] Y_bads rfl (by decide) dX7_told_24 ⟨hf1, hf2⟩
theorem hd_X6_beforeLast : yX6_beforeLast.cls = RX6 ∧ yX6_beforeLast.cls ≠ "java/lang/invoke/MethodHandle" ∧ yX6_beforeLast.cls ≠ "java/lang/invoke/VarHandle" ∧ (parseMethodDescriptor yX6_beforeLast.desc).map (fun d => d.parameters.length) = some 1 := by decide +kernel
def fX7_turn (p1 : Int32) (Y_bads : Int32) (U_count : Int32) (fUH : Nat → Int32) : Int32 × Int32 :=
  let r_2 : Int32 := fX7_within p1 0 39
  if r_2 = 0 then (
    let r_6 : Int32 := (fX7_refusedAsBad (-2) Y_bads).1
    let u_5 : Int32 := (fX7_refusedAsBad (-2) Y_bads).2
    (r_6, u_5))
  else (
    let r_9 : Int32 := fX6_beforeLast p1 U_count fUH
    (r_9, Y_bads))

set_option maxHeartbeats 4000000 in
set_option maxRecDepth 100000 in
theorem c_X7_turn (l : Launch) (G : va_G) (aY aS aU aUH rY_images rY_kept rY_law rY_reader rY_trial rY_stages rY_row rY_bestRow rS_numbers rS_text rS_pushes rS_child : Nat) (cUH : ClassId) (p1 : Int32) (Y_bestPeak : Int32) (Y_bads : Int32) (Y_noes : Int32) (Y_fulls : Int32) (U_count : Int32) (fUH : Nat → Int32) (u0 : 0 ≤ U_count.toInt) : kCi l yX7_turn (Cond.code yX7_turn cX7_turn 2 (some .int) :: wsL_law) ({ frames := 2, cells := 0, slots := 0, locals := 43 }) G [(cUH, .int)] [.ref aY, .int p1] [(aY, .inr (7, [.ref aS, .ref rY_images, .ref rY_kept, .ref rY_law, .ref rY_reader, .ref rY_trial, .ref rY_stages, .ref rY_row, .ref rY_bestRow, .int Y_bestPeak, .int Y_bads, .int Y_noes, .int Y_fulls])), (aS, .inr (4, [.ref rS_numbers, .ref rS_text, .ref rS_pushes, .ref rS_child, .ref aU])), (aU, .inr (6, [.ref aUH, .int U_count])), (aUH, .inl (cUH, 40, .inl fUH))] (fun (r : Int32) (u : Int32) => r = (fX7_turn p1 Y_bads U_count fUH).1 ∧ u = (fX7_turn p1 Y_bads U_count fUH).2) (fun (u : Int32) => [(aY, .inr (7, [.ref aS, .ref rY_images, .ref rY_kept, .ref rY_law, .ref rY_reader, .ref rY_trial, .ref rY_stages, .ref rY_row, .ref rY_bestRow, .int Y_bestPeak, .int u, .int Y_noes, .int Y_fulls])), (aS, .inr (4, [.ref rS_numbers, .ref rS_text, .ref rS_pushes, .ref rS_child, .ref aU])), (aU, .inr (6, [.ref aUH, .int U_count])), (aUH, .inl (cUH, 40, .inl fUH))]) := by
  intro sz
  refine Met.ofW (cc := cX7_turn) (maxL := 2) (ret := (some .int)) (by decide) rfl ?_
  intro p e s m args below meth c s₁ B hml hv
  obtain ⟨rfl, hv⟩ := hv
  obtain ⟨rfl, hK, hq, hA⟩ := kk_begin hv
  have hx := B.exec
  have hb := B.bytes
  have hr := B.returns
  have hts := atoms_spec (ws := (Cond.code yX7_turn cX7_turn 2 (some .int) :: wsL_law)) B.pre
  have hown : s.vm.findClass RX7 = some m.cls := findClass_of_methodNamed B.named
  have hlocks := B.notSynchronized
  have hsb : ∀ w ∈ wsL_law, w ∈ (Cond.code yX7_turn cX7_turn 2 (some .int) :: wsL_law) := fun _ h => List.mem_cons_of_mem _ h
  generalize va_A [(aY, .inr (7, [.ref aS, .ref rY_images, .ref rY_kept, .ref rY_law, .ref rY_reader, .ref rY_trial, .ref rY_stages, .ref rY_row, .ref rY_bestRow, .int Y_bestPeak, .int Y_bads, .int Y_noes, .int Y_fulls])), (aS, .inr (4, [.ref rS_numbers, .ref rS_text, .ref rS_pushes, .ref rS_child, .ref aU])), (aU, .inr (6, [.ref aUH, .int U_count])), (aUH, .inl (cUH, 40, .inl fUH))] s.heap.size = A at hq hA ⊢
  have iX4 : ∀ w ∈ u_ws RX4 TX4 5, w ∈ (Cond.code yX7_turn cX7_turn 2 (some .int) :: wsL_law) := fun w h => hsb w (bin_X4 w h)
  have iX7 : ∀ w ∈ u_ws RX7 TX7 13, w ∈ (Cond.code yX7_turn cX7_turn 2 (some .int) :: wsL_law) := fun w h => hsb w (bin_X7 w h)
  have lk0_ := hts _ (hsb _ wd_15)
  have lk1_ := hts _ (hsb _ wd_370)
  have hl := lv_entry ([.ref aY, .int p1]) (n := 2) (Nat.le_of_ble_eq_true rfl)
  rw [lg_entry_eq]
  generalize (lg_sl ([.ref aY, .int p1]) ++ List.replicate (2 - (lg_sl ([.ref aY, .int p1])).length) Slot.unset).toArray = ls at hl ⊢
  have hl : lv_has ls 2 [(0, .ref aY), (1, .int p1)] := hl
  refine lv_iload_n hx hb dX7_turn_0 rfl (lv_at hl 1 rfl) ?_
  refine lv_iconst (v := 0) hx hb dX7_turn_1 (by decide) ?_
  refine lv_bipush (v := 39) hx hb dX7_turn_2 (by decide) ?_
  refine kk_Si (As := [.int p1, .int 0, .int 39]) (rest := []) (wr := [(aY, .inr (7, [.ref aS, .ref rY_images, .ref rY_kept, .ref rY_law, .ref rY_reader, .ref rY_trial, .ref rY_stages, .ref rY_row, .ref rY_bestRow, .int Y_bestPeak, .int Y_bads, .int Y_noes, .int Y_fulls])), (aS, .inr (4, [.ref rS_numbers, .ref rS_text, .ref rS_pushes, .ref rS_child, .ref aU])), (aU, .inr (6, [.ref aUH, .int U_count])), (aUH, .inl (cUH, 40, .inl fUH))]) ⟨hx, hb, hml, hown, hts⟩ (c_X7_within l G p1 0 39) (kk_cwS 3 hts hsb wd_136 wd_137 wd_2 wd_138 rfl rfl hd_X7_within ⟨Nat.le_of_ble_eq_true rfl, Nat.le_of_ble_eq_true rfl⟩) hA hK hq [] [0, 1, 2, 3] [] rfl rfl rfl (by decide) (by decide) (by decide) rfl hl.1 rfl (Nat.le_of_ble_eq_true rfl) dX7_turn_4 ⟨Nat.zero_le _, Nat.zero_le _⟩ (fun r_2 u_1 H locs h_3 hq => ?_)
  obtain ⟨er_2, zr_2⟩ := h_3
  have hq : kAt G A s [(aY, .inr (7, [.ref aS, .ref rY_images, .ref rY_kept, .ref rY_law, .ref rY_reader, .ref rY_trial, .ref rY_stages, .ref rY_row, .ref rY_bestRow, .int Y_bestPeak, .int Y_bads, .int Y_noes, .int Y_fulls])), (aS, .inr (4, [.ref rS_numbers, .ref rS_text, .ref rS_pushes, .ref rS_child, .ref aU])), (aU, .inr (6, [.ref aUH, .int U_count])), (aUH, .inl (cUH, 40, .inl fUH))] H locs := hq
  refine lv_if_eq (tgt := 24) hx hb dX7_turn_7 (by decide) (fun c_4 => ?_) (fun c_4 => ?_)
  · skip
    refine lv_aload_n hx hb dX7_turn_24 rfl (lv_at hl 0 rfl) ?_
    refine lv_bipush (v := -2) hx hb dX7_turn_25 (by decide) ?_
    refine kk_Vi (As := [.int (-2)]) (rest := []) (wr := [(aS, .inr (4, [.ref rS_numbers, .ref rS_text, .ref rS_pushes, .ref rS_child, .ref aU])), (aU, .inr (6, [.ref aUH, .int U_count])), (aUH, .inl (cUH, 40, .inl fUH))]) ⟨hx, hb, hml, hown, hts⟩ (c_X7_refusedAsBad l G aY aS rY_images rY_kept rY_law rY_reader rY_trial rY_stages rY_row rY_bestRow (-2) Y_bestPeak Y_bads Y_noes Y_fulls) (kk_cwV 1 hts hsb wd_139 wd_140 wd_141 wd_2 wd_142 rfl rfl hd_X7_refusedAsBad ⟨Nat.le_of_ble_eq_true rfl, Nat.le_of_ble_eq_true rfl⟩) hA hK hq [0] [1, 2, 3] [] rfl rfl rfl (by decide) (by decide) (by decide) 0 7 rfl rfl rfl rfl hl.1 rfl (Nat.le_of_ble_eq_true rfl) dX7_turn_27 ⟨Nat.zero_le _, Nat.zero_le _⟩ (fun r_6 u_5 H locs h_7 hq => ?_)
    obtain ⟨er_6, eu_5⟩ := h_7
    have hq : kAt G A s [(aS, .inr (4, [.ref rS_numbers, .ref rS_text, .ref rS_pushes, .ref rS_child, .ref aU])), (aU, .inr (6, [.ref aUH, .int U_count])), (aUH, .inl (cUH, 40, .inl fUH)), (aY, .inr (7, [.ref aS, .ref rY_images, .ref rY_kept, .ref rY_law, .ref rY_reader, .ref rY_trial, .ref rY_stages, .ref rY_row, .ref rY_bestRow, .int Y_bestPeak, .int u_5, .int Y_noes, .int Y_fulls]))] H locs := hq
    have hf : ((r_6, u_5) : Int32 × Int32) = fX7_turn p1 Y_bads U_count fUH := by
      exact ((congrArg (fun (r_2 : Int32) => ((if r_2 = 0 then (
    let r_6 : Int32 := (fX7_refusedAsBad (-2) Y_bads).1
    let u_5 : Int32 := (fX7_refusedAsBad (-2) Y_bads).2
    (r_6, u_5))
  else (
    let r_9 : Int32 := fX6_beforeLast p1 U_count fUH
    (r_9, Y_bads))) : Int32 × Int32)) er_2.symm).trans ((if_pos c_4).trans ((congrArg (fun (r_6 : Int32) => ((let u_5 : Int32 := (fX7_refusedAsBad (-2) Y_bads).2
  (r_6, u_5)) : Int32 × Int32)) er_6.symm).trans ((congrArg (fun (u_5 : Int32) => (((r_6, u_5)) : Int32 × Int32)) eu_5.symm))))).symm
    have hf1 := congrArg Prod.fst hf
    have hf2 := congrArg Prod.snd hf
    exact kk_ei hx hb hr hlocks hK hq [3, 0, 1, 2] u_5 rfl (by decide) dX7_turn_30 ⟨hf1, hf2⟩
  · skip
    refine lv_aload_n hx hb dX7_turn_10 rfl (lv_at hl 0 rfl) ?_
    refine kk_get (ci := 7) (v := .ref aS) (C := RX7) (T := TX7) (N := 13) hx hb hts iX7 hown hK hq 0 rfl rfl 0 (by decide) lk0_ rfl dX7_turn_11 ?_
    refine kk_get (ci := 4) (v := .ref aU) (C := RX4) (T := TX4) (N := 5) hx hb hts iX4 hown hK hq 1 rfl rfl 4 (by decide) lk1_ rfl dX7_turn_14 ?_
    refine lv_iload_n hx hb dX7_turn_17 rfl (lv_at hl 1 rfl) ?_
    refine kk_Vi (As := [.int p1]) (rest := []) (wr := [(aY, .inr (7, [.ref aS, .ref rY_images, .ref rY_kept, .ref rY_law, .ref rY_reader, .ref rY_trial, .ref rY_stages, .ref rY_row, .ref rY_bestRow, .int Y_bestPeak, .int Y_bads, .int Y_noes, .int Y_fulls])), (aS, .inr (4, [.ref rS_numbers, .ref rS_text, .ref rS_pushes, .ref rS_child, .ref aU]))]) ⟨hx, hb, hml, hown, hts⟩ (c_X6_beforeLast l G aU aUH cUH p1 U_count fUH (by assumption)) (kk_cwV 1 hts hsb wd_595 wd_596 wd_597 wd_62 wd_598 rfl rfl hd_X6_beforeLast ⟨Nat.le_of_ble_eq_true rfl, Nat.le_of_ble_eq_true rfl⟩) hA hK hq [2, 3] [0, 1] [0] rfl rfl rfl (by decide) (by decide) (by decide) 0 6 rfl rfl rfl rfl hl.1 rfl (Nat.le_of_ble_eq_true rfl) dX7_turn_18 ⟨Nat.zero_le _, Nat.zero_le _⟩ (fun r_9 u_8 H locs h_10 hq => ?_)
    have er_9 := h_10
    have hq : kAt G A s [(aY, .inr (7, [.ref aS, .ref rY_images, .ref rY_kept, .ref rY_law, .ref rY_reader, .ref rY_trial, .ref rY_stages, .ref rY_row, .ref rY_bestRow, .int Y_bestPeak, .int Y_bads, .int Y_noes, .int Y_fulls])), (aS, .inr (4, [.ref rS_numbers, .ref rS_text, .ref rS_pushes, .ref rS_child, .ref aU])), (aU, .inr (6, [.ref aUH, .int U_count])), (aUH, .inl (cUH, 40, .inl fUH))] H locs := hq
    refine lv_goto (tgt := 30) hx hb dX7_turn_21 (by decide) ?_
    have hf : ((r_9, Y_bads) : Int32 × Int32) = fX7_turn p1 Y_bads U_count fUH := by
      exact ((congrArg (fun (r_2 : Int32) => ((if r_2 = 0 then (
    let r_6 : Int32 := (fX7_refusedAsBad (-2) Y_bads).1
    let u_5 : Int32 := (fX7_refusedAsBad (-2) Y_bads).2
    (r_6, u_5))
  else (
    let r_9 : Int32 := fX6_beforeLast p1 U_count fUH
    (r_9, Y_bads))) : Int32 × Int32)) er_2.symm).trans ((if_neg c_4).trans ((congrArg (fun (r_9 : Int32) => (((r_9, Y_bads)) : Int32 × Int32)) er_9.symm)))).symm
    have hf1 := congrArg Prod.fst hf
    have hf2 := congrArg Prod.snd hf
    exact kk_ei hx hb hr hlocks hK hq [0, 1, 2, 3] Y_bads rfl (by decide) dX7_turn_30 ⟨hf1, hf2⟩
def fX7_status (p1 : Int32) (Y_bads : Int32) (Y_noes : Int32) (Y_fulls : Int32) (P_count : Int32) : Int32 × Int32 :=
  if p1 = 0 then (
    (Y_bads, Y_bads))
  else (
    if p1 = 1 then (
      (Y_noes, Y_bads))
    else (
      if p1 = 2 then (
        (Y_fulls, Y_bads))
      else (
        if p1 = 3 then (
          (P_count, Y_bads))
        else (
          let r_6 : Int32 := (fX7_refusedAsBad (-1) Y_bads).1
          let u_5 : Int32 := (fX7_refusedAsBad (-1) Y_bads).2
          (r_6, u_5)))))

set_option maxHeartbeats 4000000 in
set_option maxRecDepth 100000 in
theorem c_X7_status (l : Launch) (G : va_G) (aY aS aP rY_images rY_kept rY_law rY_reader rY_trial rY_stages rY_row rY_bestRow rS_numbers rS_text rS_child rS_turns rP_ticks rP_forces : Nat) (p1 : Int32) (Y_bestPeak : Int32) (Y_bads : Int32) (Y_noes : Int32) (Y_fulls : Int32) (P_count : Int32) : kCi l yX7_status (Cond.code yX7_status cX7_status 2 (some .int) :: wsL_law) ({ frames := 1, cells := 0, slots := 0, locals := 21 }) G [] [.ref aY, .int p1] [(aY, .inr (7, [.ref aS, .ref rY_images, .ref rY_kept, .ref rY_law, .ref rY_reader, .ref rY_trial, .ref rY_stages, .ref rY_row, .ref rY_bestRow, .int Y_bestPeak, .int Y_bads, .int Y_noes, .int Y_fulls])), (aS, .inr (4, [.ref rS_numbers, .ref rS_text, .ref aP, .ref rS_child, .ref rS_turns])), (aP, .inr (3, [.ref rP_ticks, .ref rP_forces, .int P_count]))] (fun (r : Int32) (u : Int32) => r = (fX7_status p1 Y_bads Y_noes Y_fulls P_count).1 ∧ u = (fX7_status p1 Y_bads Y_noes Y_fulls P_count).2) (fun (u : Int32) => [(aY, .inr (7, [.ref aS, .ref rY_images, .ref rY_kept, .ref rY_law, .ref rY_reader, .ref rY_trial, .ref rY_stages, .ref rY_row, .ref rY_bestRow, .int Y_bestPeak, .int u, .int Y_noes, .int Y_fulls])), (aS, .inr (4, [.ref rS_numbers, .ref rS_text, .ref aP, .ref rS_child, .ref rS_turns])), (aP, .inr (3, [.ref rP_ticks, .ref rP_forces, .int P_count]))]) := by
  intro sz
  refine Met.ofW (cc := cX7_status) (maxL := 2) (ret := (some .int)) (by decide) rfl ?_
  intro p e s m args below meth c s₁ B hml hv
  obtain ⟨rfl, hv⟩ := hv
  obtain ⟨rfl, hK, hq, hA⟩ := kk_begin hv
  have hx := B.exec
  have hb := B.bytes
  have hr := B.returns
  have hts := atoms_spec (ws := (Cond.code yX7_status cX7_status 2 (some .int) :: wsL_law)) B.pre
  have hown : s.vm.findClass RX7 = some m.cls := findClass_of_methodNamed B.named
  have hlocks := B.notSynchronized
  have hsb : ∀ w ∈ wsL_law, w ∈ (Cond.code yX7_status cX7_status 2 (some .int) :: wsL_law) := fun _ h => List.mem_cons_of_mem _ h
  generalize va_A [(aY, .inr (7, [.ref aS, .ref rY_images, .ref rY_kept, .ref rY_law, .ref rY_reader, .ref rY_trial, .ref rY_stages, .ref rY_row, .ref rY_bestRow, .int Y_bestPeak, .int Y_bads, .int Y_noes, .int Y_fulls])), (aS, .inr (4, [.ref rS_numbers, .ref rS_text, .ref aP, .ref rS_child, .ref rS_turns])), (aP, .inr (3, [.ref rP_ticks, .ref rP_forces, .int P_count]))] s.heap.size = A at hq hA ⊢
  have iX3 : ∀ w ∈ u_ws RX3 TX3 3, w ∈ (Cond.code yX7_status cX7_status 2 (some .int) :: wsL_law) := fun w h => hsb w (bin_X3 w h)
  have iX4 : ∀ w ∈ u_ws RX4 TX4 5, w ∈ (Cond.code yX7_status cX7_status 2 (some .int) :: wsL_law) := fun w h => hsb w (bin_X4 w h)
  have iX7 : ∀ w ∈ u_ws RX7 TX7 13, w ∈ (Cond.code yX7_status cX7_status 2 (some .int) :: wsL_law) := fun w h => hsb w (bin_X7 w h)
  have lk0_ := hts _ (hsb _ wd_37)
  have lk1_ := hts _ (hsb _ wd_38)
  have lk2_ := hts _ (hsb _ wd_39)
  have lk3_ := hts _ (hsb _ wd_15)
  have lk4_ := hts _ (hsb _ wd_332)
  have lk5_ := hts _ (hsb _ wd_333)
  have hl := lv_entry ([.ref aY, .int p1]) (n := 2) (Nat.le_of_ble_eq_true rfl)
  rw [lg_entry_eq]
  generalize (lg_sl ([.ref aY, .int p1]) ++ List.replicate (2 - (lg_sl ([.ref aY, .int p1])).length) Slot.unset).toArray = ls at hl ⊢
  have hl : lv_has ls 2 [(0, .ref aY), (1, .int p1)] := hl
  refine lv_iload_n hx hb dX7_status_0 rfl (lv_at hl 1 rfl) ?_
  refine kk_case (c := p1 = 0) (fun c_1 => ?_) (fun c_1 => ?_)
  · skip
    refine lv_tableIn (tgt := 32) hx hb dX7_status_1 (by rw [c_1]; decide) (by rw [c_1]; decide) (by rw [c_1]; try rfl) (by decide) ?_
    refine lv_aload_n hx hb dX7_status_32 rfl (lv_at hl 0 rfl) ?_
    refine kk_get (ci := 7) (v := .int Y_bads) (C := RX7) (T := TX7) (N := 13) hx hb hts iX7 hown hK hq 0 rfl rfl 10 (by decide) lk0_ rfl dX7_status_33 ?_
    have hf : ((Y_bads, Y_bads) : Int32 × Int32) = fX7_status p1 Y_bads Y_noes Y_fulls P_count := by
      exact ((if_pos c_1)).symm
    have hf1 := congrArg Prod.fst hf
    have hf2 := congrArg Prod.snd hf
    exact kk_ei hx hb hr hlocks hK hq [0, 1, 2] Y_bads rfl (by decide) dX7_status_36 ⟨hf1, hf2⟩
  · skip
    refine kk_case (c := p1 = 1) (fun c_2 => ?_) (fun c_2 => ?_)
    · skip
      refine lv_tableIn (tgt := 37) hx hb dX7_status_1 (by rw [c_2]; decide) (by rw [c_2]; decide) (by rw [c_2]; try rfl) (by decide) ?_
      refine lv_aload_n hx hb dX7_status_37 rfl (lv_at hl 0 rfl) ?_
      refine kk_get (ci := 7) (v := .int Y_noes) (C := RX7) (T := TX7) (N := 13) hx hb hts iX7 hown hK hq 0 rfl rfl 11 (by decide) lk1_ rfl dX7_status_38 ?_
      have hf : ((Y_noes, Y_bads) : Int32 × Int32) = fX7_status p1 Y_bads Y_noes Y_fulls P_count := by
        exact ((if_neg c_1).trans ((if_pos c_2))).symm
      have hf1 := congrArg Prod.fst hf
      have hf2 := congrArg Prod.snd hf
      exact kk_ei hx hb hr hlocks hK hq [0, 1, 2] Y_bads rfl (by decide) dX7_status_41 ⟨hf1, hf2⟩
    · skip
      refine kk_case (c := p1 = 2) (fun c_3 => ?_) (fun c_3 => ?_)
      · skip
        refine lv_tableIn (tgt := 42) hx hb dX7_status_1 (by rw [c_3]; decide) (by rw [c_3]; decide) (by rw [c_3]; try rfl) (by decide) ?_
        refine lv_aload_n hx hb dX7_status_42 rfl (lv_at hl 0 rfl) ?_
        refine kk_get (ci := 7) (v := .int Y_fulls) (C := RX7) (T := TX7) (N := 13) hx hb hts iX7 hown hK hq 0 rfl rfl 12 (by decide) lk2_ rfl dX7_status_43 ?_
        have hf : ((Y_fulls, Y_bads) : Int32 × Int32) = fX7_status p1 Y_bads Y_noes Y_fulls P_count := by
          exact ((if_neg c_1).trans ((if_neg c_2).trans ((if_pos c_3)))).symm
        have hf1 := congrArg Prod.fst hf
        have hf2 := congrArg Prod.snd hf
        exact kk_ei hx hb hr hlocks hK hq [0, 1, 2] Y_bads rfl (by decide) dX7_status_46 ⟨hf1, hf2⟩
      · skip
        refine kk_case (c := p1 = 3) (fun c_4 => ?_) (fun c_4 => ?_)
        · skip
          refine lv_tableIn (tgt := 47) hx hb dX7_status_1 (by rw [c_4]; decide) (by rw [c_4]; decide) (by rw [c_4]; try rfl) (by decide) ?_
          refine lv_aload_n hx hb dX7_status_47 rfl (lv_at hl 0 rfl) ?_
          refine kk_get (ci := 7) (v := .ref aS) (C := RX7) (T := TX7) (N := 13) hx hb hts iX7 hown hK hq 0 rfl rfl 0 (by decide) lk3_ rfl dX7_status_48 ?_
          refine kk_get (ci := 4) (v := .ref aP) (C := RX4) (T := TX4) (N := 5) hx hb hts iX4 hown hK hq 1 rfl rfl 2 (by decide) lk4_ rfl dX7_status_51 ?_
          refine kk_get (ci := 3) (v := .int P_count) (C := RX3) (T := TX3) (N := 3) hx hb hts iX3 hown hK hq 2 rfl rfl 2 (by decide) lk5_ rfl dX7_status_54 ?_
          have hf : ((P_count, Y_bads) : Int32 × Int32) = fX7_status p1 Y_bads Y_noes Y_fulls P_count := by
            exact ((if_neg c_1).trans ((if_neg c_2).trans ((if_neg c_3).trans ((if_pos c_4))))).symm
          have hf1 := congrArg Prod.fst hf
          have hf2 := congrArg Prod.snd hf
          exact kk_ei hx hb hr hlocks hK hq [0, 1, 2] Y_bads rfl (by decide) dX7_status_57 ⟨hf1, hf2⟩
        · skip
          refine lv_tableOut (tgt := 58) hx hb dX7_status_1 (by have := kk_ne (k := 0) c_1 (by decide); have := kk_ne (k := 1) c_2 (by decide); have := kk_ne (k := 2) c_3 (by decide); have := kk_ne (k := 3) c_4 (by decide); omega) (by decide) ?_
          refine lv_aload_n hx hb dX7_status_58 rfl (lv_at hl 0 rfl) ?_
          refine lv_iconst (v := -1) hx hb dX7_status_59 (by decide) ?_
          refine kk_Vi (As := [.int (-1)]) (rest := []) (wr := [(aS, .inr (4, [.ref rS_numbers, .ref rS_text, .ref aP, .ref rS_child, .ref rS_turns])), (aP, .inr (3, [.ref rP_ticks, .ref rP_forces, .int P_count]))]) ⟨hx, hb, hml, hown, hts⟩ (c_X7_refusedAsBad l G aY aS rY_images rY_kept rY_law rY_reader rY_trial rY_stages rY_row rY_bestRow (-1) Y_bestPeak Y_bads Y_noes Y_fulls) (kk_cwV 1 hts hsb wd_139 wd_140 wd_141 wd_2 wd_142 rfl rfl hd_X7_refusedAsBad ⟨Nat.le_of_ble_eq_true rfl, Nat.le_of_ble_eq_true rfl⟩) hA hK hq [0] [1, 2] [] rfl rfl rfl (by decide) (by decide) (by decide) 0 7 rfl rfl rfl rfl hl.1 rfl (Nat.le_of_ble_eq_true rfl) dX7_status_60 ⟨Nat.zero_le _, Nat.zero_le _⟩ (fun r_6 u_5 H locs h_7 hq => ?_)
          obtain ⟨er_6, eu_5⟩ := h_7
          have hq : kAt G A s [(aS, .inr (4, [.ref rS_numbers, .ref rS_text, .ref aP, .ref rS_child, .ref rS_turns])), (aP, .inr (3, [.ref rP_ticks, .ref rP_forces, .int P_count])), (aY, .inr (7, [.ref aS, .ref rY_images, .ref rY_kept, .ref rY_law, .ref rY_reader, .ref rY_trial, .ref rY_stages, .ref rY_row, .ref rY_bestRow, .int Y_bestPeak, .int u_5, .int Y_noes, .int Y_fulls]))] H locs := hq
          have hf : ((r_6, u_5) : Int32 × Int32) = fX7_status p1 Y_bads Y_noes Y_fulls P_count := by
            exact ((if_neg c_1).trans ((if_neg c_2).trans ((if_neg c_3).trans ((if_neg c_4).trans ((congrArg (fun (r_6 : Int32) => ((let u_5 : Int32 := (fX7_refusedAsBad (-1) Y_bads).2
  (r_6, u_5)) : Int32 × Int32)) er_6.symm).trans ((congrArg (fun (u_5 : Int32) => (((r_6, u_5)) : Int32 × Int32)) eu_5.symm))))))).symm
          have hf1 := congrArg Prod.fst hf
          have hf2 := congrArg Prod.snd hf
          exact kk_ei hx hb hr hlocks hK hq [2, 0, 1] u_5 rfl (by decide) dX7_status_63 ⟨hf1, hf2⟩
