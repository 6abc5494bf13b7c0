def fX7_put (p1 : Int32) (p2 : Int32) (Y_bads : Int32) (fN : Nat → Int32) : Int32 × Int32 × (Nat → Int32) :=
  let r_2 : Int32 := fX7_within p1 0 7
  if r_2 = 0 then (
    let r_6 : Int32 := (fX7_refusedAsBad (-100) Y_bads).1
    let u_5 : Int32 := (fX7_refusedAsBad (-100) Y_bads).2
    (r_6, u_5, fN))
  else (
    let r_9 : Int32 := fX7_within p2 (sa_LEAST p1.toNatClampNeg) (sa_MOST p1.toNatClampNeg)
    if r_9 = 0 then (
      let r_15 : Int32 := (fX7_refusedAsBad (-100) Y_bads).1
      let u_14 : Int32 := (fX7_refusedAsBad (-100) Y_bads).2
      (r_15, u_14, fN))
    else (
      let x3_12 : Int32 := fN p1.toNatClampNeg
      let fN_13 : Nat → Int32 := upd fN p1.toNatClampNeg p2
      (x3_12, Y_bads, fN_13)))

set_option maxHeartbeats 4000000 in
set_option maxRecDepth 100000 in
theorem c_X7_put (l : Launch) (G : va_G) (ts : Nat → Nat) (aY aS aN rY_images rY_kept rY_law rY_reader rY_trial rY_stages rY_row rY_bestRow rS_text rS_pushes rS_child rS_turns : Nat) (cN : ClassId) (p1 : Int32) (p2 : Int32) (Y_bestPeak : Int32) (Y_bads : Int32) (Y_noes : Int32) (Y_fulls : Int32) (fN : Nat → Int32) : kDi l yX7_put (Cond.code yX7_put cX7_put 4 (some .int) :: wsL_law) ({ frames := 1, cells := 0, slots := 0, locals := 22 }) G [(cN, .int)] ts [.ref aY, .int p1, .int p2] [(aY, .inr (7, [.ref aS, .ref rY_images, .ref rY_kept, .ref rY_law, .ref rY_reader, .ref rY_trial, .ref rY_stages, .ref rY_row, .ref rY_bestRow, .int Y_bestPeak, .int Y_bads, .int Y_noes, .int Y_fulls])), (aS, .inr (4, [.ref aN, .ref rS_text, .ref rS_pushes, .ref rS_child, .ref rS_turns])), (aN, .inl (cN, 8, .inl fN))] (fun (r : Int32) (u : Int32 × (Nat → Int32)) => r = (fX7_put p1 p2 Y_bads fN).1 ∧ u = (fX7_put p1 p2 Y_bads fN).2) (fun (u : Int32 × (Nat → Int32)) => [(aY, .inr (7, [.ref aS, .ref rY_images, .ref rY_kept, .ref rY_law, .ref rY_reader, .ref rY_trial, .ref rY_stages, .ref rY_row, .ref rY_bestRow, .int Y_bestPeak, .int u.1, .int Y_noes, .int Y_fulls])), (aS, .inr (4, [.ref aN, .ref rS_text, .ref rS_pushes, .ref rS_child, .ref rS_turns])), (aN, .inl (cN, 8, .inl u.2))]) := by
  intro sz
  refine Met.ofW (cc := cX7_put) (maxL := 4) (ret := (some .int)) (by decide) rfl ?_
  intro p e s m args below meth c s₁ B hml hv
  obtain ⟨rfl, hv⟩ := hv
  obtain ⟨hv, hE⟩ := hv
  obtain ⟨rfl, hK, hq, hA⟩ := kk_begin hv
  have hx := B.exec
  have hb := B.bytes
  have hr := B.returns
  have hts := atoms_spec (ws := (Cond.code yX7_put cX7_put 4 (some .int) :: wsL_law)) B.pre
  have hown : s.vm.findClass RX7 = some m.cls := findClass_of_methodNamed B.named
  have hlocks := B.notSynchronized
  have hsb : ∀ w ∈ wsL_law, w ∈ (Cond.code yX7_put cX7_put 4 (some .int) :: wsL_law) := fun _ h => List.mem_cons_of_mem _ h
  generalize va_A [(aY, .inr (7, [.ref aS, .ref rY_images, .ref rY_kept, .ref rY_law, .ref rY_reader, .ref rY_trial, .ref rY_stages, .ref rY_row, .ref rY_bestRow, .int Y_bestPeak, .int Y_bads, .int Y_noes, .int Y_fulls])), (aS, .inr (4, [.ref aN, .ref rS_text, .ref rS_pushes, .ref rS_child, .ref rS_turns])), (aN, .inl (cN, 8, .inl fN))] s.heap.size = A at hq hA hE ⊢
  have iX4 : ∀ w ∈ u_ws RX4 TX4 5, w ∈ (Cond.code yX7_put cX7_put 4 (some .int) :: wsL_law) := fun w h => hsb w (bin_X4 w h)
  have iX7 : ∀ w ∈ u_ws RX7 TX7 13, w ∈ (Cond.code yX7_put cX7_put 4 (some .int) :: wsL_law) := fun w h => hsb w (bin_X7 w h)
  have lk0_ := hts _ (hsb _ wd_133)
  have lk1_ := hts _ (hsb _ wd_134)
  have lk2_ := hts _ (hsb _ wd_15)
  have lk3_ := hts _ (hsb _ wd_135)
  have hl := lv_entry ([.ref aY, .int p1, .int p2]) (n := 4) (Nat.le_of_ble_eq_true rfl)
  rw [lg_entry_eq]
  generalize (lg_sl ([.ref aY, .int p1, .int p2]) ++ List.replicate (4 - (lg_sl ([.ref aY, .int p1, .int p2])).length) Slot.unset).toArray = ls at hl ⊢
  have hl : lv_has ls 4 [(0, .ref aY), (1, .int p1), (2, .int p2)] := hl
  refine lv_iload_n hx hb dX7_put_0 rfl (lv_at hl 1 rfl) ?_
  refine lv_iconst (v := 0) hx hb dX7_put_1 (by decide) ?_
  refine lv_bipush (v := 7) hx hb dX7_put_2 (by decide) ?_
  refine kk_Si (As := [.int p1, .int 0, .int 7]) (rest := []) (wr := [(aY, .inr (7, [.ref aS, .ref rY_images, .ref rY_kept, .ref rY_law, .ref rY_reader, .ref rY_trial, .ref rY_stages, .ref rY_row, .ref rY_bestRow, .int Y_bestPeak, .int Y_bads, .int Y_noes, .int Y_fulls])), (aS, .inr (4, [.ref aN, .ref rS_text, .ref rS_pushes, .ref rS_child, .ref rS_turns])), (aN, .inl (cN, 8, .inl fN))]) ⟨hx, hb, hml, hown, hts⟩ (c_X7_within l G p1 0 7) (kk_cwS 3 hts hsb wd_136 wd_137 wd_2 wd_138 rfl rfl hd_X7_within ⟨Nat.le_of_ble_eq_true rfl, Nat.le_of_ble_eq_true rfl⟩) hA hK hq [] [0, 1, 2] [] rfl rfl rfl (by decide) (by decide) (by decide) rfl hl.1 rfl (Nat.le_of_ble_eq_true rfl) dX7_put_4 ⟨Nat.zero_le _, Nat.zero_le _⟩ (fun r_2 u_1 H locs h_3 hq => ?_)
  obtain ⟨er_2, zr_2⟩ := h_3
  have hq : kAt G A s [(aY, .inr (7, [.ref aS, .ref rY_images, .ref rY_kept, .ref rY_law, .ref rY_reader, .ref rY_trial, .ref rY_stages, .ref rY_row, .ref rY_bestRow, .int Y_bestPeak, .int Y_bads, .int Y_noes, .int Y_fulls])), (aS, .inr (4, [.ref aN, .ref rS_text, .ref rS_pushes, .ref rS_child, .ref rS_turns])), (aN, .inl (cN, 8, .inl fN))] H locs := hq
  have hrw := er_2
  refine lv_if_eq (tgt := 27) hx hb dX7_put_7 (by decide) (fun c_4 => ?_) (fun c_4 => ?_)
  · skip
    refine lv_aload_n hx hb dX7_put_27 rfl (lv_at hl 0 rfl) ?_
    refine lv_bipush (v := -100) hx hb dX7_put_28 (by decide) ?_
    refine kk_Vi (As := [.int (-100)]) (rest := []) (wr := [(aS, .inr (4, [.ref aN, .ref rS_text, .ref rS_pushes, .ref rS_child, .ref rS_turns])), (aN, .inl (cN, 8, .inl fN))]) ⟨hx, hb, hml, hown, hts⟩ (c_X7_refusedAsBad l G aY aS rY_images rY_kept rY_law rY_reader rY_trial rY_stages rY_row rY_bestRow (-100) Y_bestPeak Y_bads Y_noes Y_fulls) (kk_cwV 1 hts hsb wd_139 wd_140 wd_141 wd_2 wd_142 rfl rfl hd_X7_refusedAsBad ⟨Nat.le_of_ble_eq_true rfl, Nat.le_of_ble_eq_true rfl⟩) hA hK hq [0] [1, 2] [] rfl rfl rfl (by decide) (by decide) (by decide) 0 7 rfl rfl rfl rfl hl.1 rfl (Nat.le_of_ble_eq_true rfl) dX7_put_30 ⟨Nat.zero_le _, Nat.zero_le _⟩ (fun r_6 u_5 H locs h_7 hq => ?_)
    obtain ⟨er_6, eu_5⟩ := h_7
    have hq : kAt G A s [(aS, .inr (4, [.ref aN, .ref rS_text, .ref rS_pushes, .ref rS_child, .ref rS_turns])), (aN, .inl (cN, 8, .inl fN)), (aY, .inr (7, [.ref aS, .ref rY_images, .ref rY_kept, .ref rY_law, .ref rY_reader, .ref rY_trial, .ref rY_stages, .ref rY_row, .ref rY_bestRow, .int Y_bestPeak, .int u_5, .int Y_noes, .int Y_fulls]))] H locs := hq
    have hf : ((r_6, u_5, fN) : Int32 × Int32 × (Nat → Int32)) = fX7_put p1 p2 Y_bads fN := by
      exact ((congrArg (fun (r_2 : Int32) => ((if r_2 = 0 then (
    let r_6 : Int32 := (fX7_refusedAsBad (-100) Y_bads).1
    let u_5 : Int32 := (fX7_refusedAsBad (-100) Y_bads).2
    (r_6, u_5, fN))
  else (
    let r_9 : Int32 := fX7_within p2 (sa_LEAST p1.toNatClampNeg) (sa_MOST p1.toNatClampNeg)
    if r_9 = 0 then (
      let r_15 : Int32 := (fX7_refusedAsBad (-100) Y_bads).1
      let u_14 : Int32 := (fX7_refusedAsBad (-100) Y_bads).2
      (r_15, u_14, fN))
    else (
      let x3_12 : Int32 := fN p1.toNatClampNeg
      let fN_13 : Nat → Int32 := upd fN p1.toNatClampNeg p2
      (x3_12, Y_bads, fN_13)))) : Int32 × Int32 × (Nat → Int32))) er_2.symm).trans ((if_pos c_4).trans ((congrArg (fun (r_6 : Int32) => ((let u_5 : Int32 := (fX7_refusedAsBad (-100) Y_bads).2
  (r_6, u_5, fN)) : Int32 × Int32 × (Nat → Int32))) er_6.symm).trans ((congrArg (fun (u_5 : Int32) => (((r_6, u_5, fN)) : Int32 × Int32 × (Nat → Int32))) eu_5.symm))))).symm
    have hf1 := congrArg Prod.fst hf
    have hf2 := congrArg Prod.snd hf
    exact kk_ei hx hb hr hlocks hK hq [2, 0, 1] (u_5, fN) rfl (by decide) dX7_put_33 ⟨hf1, hf2⟩
  · skip
    have hw := wi_le (hrw ▸ c_4)
    have w0 : 0 ≤ p1.toInt := kk_le (k := 0) rfl hw.1
    have w1 : p1.toInt < (8 : Nat) := by have := kk_le2 (k := 7) rfl hw.2; omega
    refine lv_iload_n hx hb dX7_put_10 rfl (lv_at hl 2 rfl) ?_
    refine va_gets hx hb hE.1.1 hq.2.2 hown lk0_ (fun _ h => h) dX7_put_11 ?_
    refine lv_iload_n hx hb dX7_put_14 rfl (lv_at hl 1 rfl) ?_
    refine kk_ti hx hb hE.1.2 hq.2.2 p1.toNatClampNeg (kk_cl w0) (kk_clt w0 w1) (by decide) dX7_put_15 ?_
    refine va_gets hx hb hE.2.1.1 hq.2.2 hown lk1_ (fun _ h => h) dX7_put_16 ?_
    refine lv_iload_n hx hb dX7_put_19 rfl (lv_at hl 1 rfl) ?_
    refine kk_ti hx hb hE.2.1.2 hq.2.2 p1.toNatClampNeg (kk_cl w0) (kk_clt w0 w1) (by decide) dX7_put_20 ?_
    refine kk_Si (As := [.int p2, .int (sa_LEAST p1.toNatClampNeg), .int (sa_MOST p1.toNatClampNeg)]) (rest := []) (wr := [(aY, .inr (7, [.ref aS, .ref rY_images, .ref rY_kept, .ref rY_law, .ref rY_reader, .ref rY_trial, .ref rY_stages, .ref rY_row, .ref rY_bestRow, .int Y_bestPeak, .int Y_bads, .int Y_noes, .int Y_fulls])), (aS, .inr (4, [.ref aN, .ref rS_text, .ref rS_pushes, .ref rS_child, .ref rS_turns])), (aN, .inl (cN, 8, .inl fN))]) ⟨hx, hb, hml, hown, hts⟩ (c_X7_within l G p2 (sa_LEAST p1.toNatClampNeg) (sa_MOST p1.toNatClampNeg)) (kk_cwS 3 hts hsb wd_136 wd_137 wd_2 wd_138 rfl rfl hd_X7_within ⟨Nat.le_of_ble_eq_true rfl, Nat.le_of_ble_eq_true rfl⟩) hA hK hq [] [0, 1, 2] [] rfl rfl rfl (by decide) (by decide) (by decide) rfl hl.1 rfl (Nat.le_of_ble_eq_true rfl) dX7_put_21 ⟨Nat.zero_le _, Nat.zero_le _⟩ (fun r_9 u_8 H locs h_10 hq => ?_)
    obtain ⟨er_9, zr_9⟩ := h_10
    have hq : kAt G A s [(aY, .inr (7, [.ref aS, .ref rY_images, .ref rY_kept, .ref rY_law, .ref rY_reader, .ref rY_trial, .ref rY_stages, .ref rY_row, .ref rY_bestRow, .int Y_bestPeak, .int Y_bads, .int Y_noes, .int Y_fulls])), (aS, .inr (4, [.ref aN, .ref rS_text, .ref rS_pushes, .ref rS_child, .ref rS_turns])), (aN, .inl (cN, 8, .inl fN))] H locs := hq
    refine lv_if_ne (tgt := 34) hx hb dX7_put_24 (by decide) (fun c_11 => ?_) (fun c_11 => ?_)
    · skip
      refine lv_aload_n hx hb dX7_put_34 rfl (lv_at hl 0 rfl) ?_
      refine kk_get (ci := 7) (v := .ref aS) (C := RX7) (T := TX7) (N := 13) hx hb hts iX7 hown hK hq 0 rfl rfl 0 (by decide) lk2_ rfl dX7_put_35 ?_
      refine kk_get (ci := 4) (v := .ref aN) (C := RX4) (T := TX4) (N := 5) hx hb hts iX4 hown hK hq 1 rfl rfl 0 (by decide) lk3_ rfl dX7_put_38 ?_
      refine lv_iload_n hx hb dX7_put_41 rfl (lv_at hl 1 rfl) ?_
      refine kk_iald hx hb hK hq 2 0 rfl rfl p1.toNatClampNeg (kk_cl w0) (kk_clt w0 w1) (by decide) dX7_put_42 ?_
      refine lv_topi (fun x3_12 ex3_12 => ?_)
      refine lv_istore_n (lv' := [(3, .int x3_12), (0, .ref aY), (1, .int p1), (2, .int p2)]) hx hb dX7_put_43 rfl hl (by decide) rfl (fun ls hl => ?_)
      refine lv_aload_n hx hb dX7_put_44 rfl (lv_at hl 1 rfl) ?_
      refine kk_get (ci := 7) (v := .ref aS) (C := RX7) (T := TX7) (N := 13) hx hb hts iX7 hown hK hq 0 rfl rfl 0 (by decide) lk2_ rfl dX7_put_45 ?_
      refine kk_get (ci := 4) (v := .ref aN) (C := RX4) (T := TX4) (N := 5) hx hb hts iX4 hown hK hq 1 rfl rfl 0 (by decide) lk3_ rfl dX7_put_48 ?_
      refine lv_iload_n hx hb dX7_put_51 rfl (lv_at hl 2 rfl) ?_
      refine lv_iload_n hx hb dX7_put_52 rfl (lv_at hl 3 rfl) ?_
      refine kk_iast (ws' := [(aY, .inr (7, [.ref aS, .ref rY_images, .ref rY_kept, .ref rY_law, .ref rY_reader, .ref rY_trial, .ref rY_stages, .ref rY_row, .ref rY_bestRow, .int Y_bestPeak, .int Y_bads, .int Y_noes, .int Y_fulls])), (aS, .inr (4, [.ref aN, .ref rS_text, .ref rS_pushes, .ref rS_child, .ref rS_turns])), (aN, .inl (cN, 8, .inl (upd fN p1.toNatClampNeg p2)))]) hx hb hK hq 2 0 rfl rfl p1.toNatClampNeg (kk_cl w0) (kk_clt w0 w1) (by decide) dX7_put_53 rfl (fun H locs hq => ?_)
      obtain ⟨fN_13, efN_13⟩ : ∃ z : Nat → Int32, z = upd fN p1.toNatClampNeg p2 := ⟨_, rfl⟩
      rw [← efN_13] at hq
      refine lv_iload_n hx hb dX7_put_54 rfl (lv_at hl 0 rfl) ?_
      have hf : ((x3_12, Y_bads, fN_13) : Int32 × Int32 × (Nat → Int32)) = fX7_put p1 p2 Y_bads fN := by
        exact ((congrArg (fun (r_2 : Int32) => ((if r_2 = 0 then (
    let r_6 : Int32 := (fX7_refusedAsBad (-100) Y_bads).1
    let u_5 : Int32 := (fX7_refusedAsBad (-100) Y_bads).2
    (r_6, u_5, fN))
  else (
    let r_9 : Int32 := fX7_within p2 (sa_LEAST p1.toNatClampNeg) (sa_MOST p1.toNatClampNeg)
    if r_9 = 0 then (
      let r_15 : Int32 := (fX7_refusedAsBad (-100) Y_bads).1
      let u_14 : Int32 := (fX7_refusedAsBad (-100) Y_bads).2
      (r_15, u_14, fN))
    else (
      let x3_12 : Int32 := fN p1.toNatClampNeg
      let fN_13 : Nat → Int32 := upd fN p1.toNatClampNeg p2
      (x3_12, Y_bads, fN_13)))) : Int32 × Int32 × (Nat → Int32))) er_2.symm).trans ((if_neg c_4).trans ((congrArg (fun (r_9 : Int32) => ((if r_9 = 0 then (
    let r_15 : Int32 := (fX7_refusedAsBad (-100) Y_bads).1
    let u_14 : Int32 := (fX7_refusedAsBad (-100) Y_bads).2
    (r_15, u_14, fN))
  else (
    let x3_12 : Int32 := fN p1.toNatClampNeg
    let fN_13 : Nat → Int32 := upd fN p1.toNatClampNeg p2
    (x3_12, Y_bads, fN_13))) : Int32 × Int32 × (Nat → Int32))) er_9.symm).trans ((if_neg c_11).trans ((congrArg (fun (x3_12 : Int32) => ((let fN_13 : Nat → Int32 := upd fN p1.toNatClampNeg p2
  (x3_12, Y_bads, fN_13)) : Int32 × Int32 × (Nat → Int32))) ex3_12.symm).trans ((congrArg (fun (fN_13 : Nat → Int32) => (((x3_12, Y_bads, fN_13)) : Int32 × Int32 × (Nat → Int32))) efN_13.symm))))))).symm
      have hf1 := congrArg Prod.fst hf
      have hf2 := congrArg Prod.snd hf
      exact kk_ei hx hb hr hlocks hK hq [0, 1, 2] (Y_bads, fN_13) rfl (by decide) dX7_put_55 ⟨hf1, hf2⟩
    · skip
      refine lv_aload_n hx hb dX7_put_27 rfl (lv_at hl 0 rfl) ?_
      refine lv_bipush (v := -100) hx hb dX7_put_28 (by decide) ?_
      refine kk_Vi (As := [.int (-100)]) (rest := []) (wr := [(aS, .inr (4, [.ref aN, .ref rS_text, .ref rS_pushes, .ref rS_child, .ref rS_turns])), (aN, .inl (cN, 8, .inl fN))]) ⟨hx, hb, hml, hown, hts⟩ (c_X7_refusedAsBad l G aY aS rY_images rY_kept rY_law rY_reader rY_trial rY_stages rY_row rY_bestRow (-100) Y_bestPeak Y_bads Y_noes Y_fulls) (kk_cwV 1 hts hsb wd_139 wd_140 wd_141 wd_2 wd_142 rfl rfl hd_X7_refusedAsBad ⟨Nat.le_of_ble_eq_true rfl, Nat.le_of_ble_eq_true rfl⟩) hA hK hq [0] [1, 2] [] rfl rfl rfl (by decide) (by decide) (by decide) 0 7 rfl rfl rfl rfl hl.1 rfl (Nat.le_of_ble_eq_true rfl) dX7_put_30 ⟨Nat.zero_le _, Nat.zero_le _⟩ (fun r_15 u_14 H locs h_16 hq => ?_)
      obtain ⟨er_15, eu_14⟩ := h_16
      have hq : kAt G A s [(aS, .inr (4, [.ref aN, .ref rS_text, .ref rS_pushes, .ref rS_child, .ref rS_turns])), (aN, .inl (cN, 8, .inl fN)), (aY, .inr (7, [.ref aS, .ref rY_images, .ref rY_kept, .ref rY_law, .ref rY_reader, .ref rY_trial, .ref rY_stages, .ref rY_row, .ref rY_bestRow, .int Y_bestPeak, .int u_14, .int Y_noes, .int Y_fulls]))] H locs := hq
      have hf : ((r_15, u_14, fN) : Int32 × Int32 × (Nat → Int32)) = fX7_put p1 p2 Y_bads fN := by
        exact ((congrArg (fun (r_2 : Int32) => ((if r_2 = 0 then (
    let r_6 : Int32 := (fX7_refusedAsBad (-100) Y_bads).1
    let u_5 : Int32 := (fX7_refusedAsBad (-100) Y_bads).2
    (r_6, u_5, fN))
  else (
    let r_9 : Int32 := fX7_within p2 (sa_LEAST p1.toNatClampNeg) (sa_MOST p1.toNatClampNeg)
    if r_9 = 0 then (
      let r_15 : Int32 := (fX7_refusedAsBad (-100) Y_bads).1
      let u_14 : Int32 := (fX7_refusedAsBad (-100) Y_bads).2
      (r_15, u_14, fN))
    else (
      let x3_12 : Int32 := fN p1.toNatClampNeg
      let fN_13 : Nat → Int32 := upd fN p1.toNatClampNeg p2
      (x3_12, Y_bads, fN_13)))) : Int32 × Int32 × (Nat → Int32))) er_2.symm).trans ((if_neg c_4).trans ((congrArg (fun (r_9 : Int32) => ((if r_9 = 0 then (
    let r_15 : Int32 := (fX7_refusedAsBad (-100) Y_bads).1
    let u_14 : Int32 := (fX7_refusedAsBad (-100) Y_bads).2
    (r_15, u_14, fN))
  else (
    let x3_12 : Int32 := fN p1.toNatClampNeg
    let fN_13 : Nat → Int32 := upd fN p1.toNatClampNeg p2
    (x3_12, Y_bads, fN_13))) : Int32 × Int32 × (Nat → Int32))) er_9.symm).trans ((if_pos c_11).trans ((congrArg (fun (r_15 : Int32) => ((let u_14 : Int32 := (fX7_refusedAsBad (-100) Y_bads).2
  (r_15, u_14, fN)) : Int32 × Int32 × (Nat → Int32))) er_15.symm).trans ((congrArg (fun (u_14 : Int32) => (((r_15, u_14, fN)) : Int32 × Int32 × (Nat → Int32))) eu_14.symm))))))).symm
      have hf1 := congrArg Prod.fst hf
      have hf2 := congrArg Prod.snd hf
      exact kk_ei hx hb hr hlocks hK hq [2, 0, 1] (u_14, fN) rfl (by decide) dX7_put_33 ⟨hf1, hf2⟩
def lpX7_begins_24 (fN : Nat → Int32) (P_count : Int32) (fPT : Nat → Int32) (fPF : Nat → Int32) (L_count : Int32) (L_fault : Int32) (fLP : Nat → Int32) : Nat → Int32 → Int64 → Int64 → Int32 → Int32 → Int32 → Int32 → Int32 → Int32 → Int32 → Int32 → Int64 → Int64 → Int32 → (Nat → Int64) → Int32 × Int32 × (Nat → Int64) × Int64 × Int64 × Int32 × Int32 × Int32 × Int32 × Int32 × Int32 × Int32 × Int32 × Int64 × Int64
  | 0, _, _, _, _, _, _, _, _, _, _, _, _, _, _, _ => (0, 0, fun _ => 0, 0, 0, 0, 0, 0, 0, 0, 0, 0, 0, 0, 0)
  | N + 1, i, pl, sp, po, si, he, ti, wa, sg, dr, gd, op, os, tp, vf =>
    if 500 < i then (
    ((-1), tp, vf, pl, sp, po, si, he, ti, wa, sg, dr, gd, op, os))
    else (
    let r_9 : Int32 := (fX7_stepByLaw fN P_count fPT fPF L_count L_fault tp fLP vf pl sp po si he ti wa sg dr gd op os).1
    let u_8 : Int32 × (Nat → Int64) × Int64 × Int64 × Int32 × Int32 × Int32 × Int32 × Int32 × Int32 × Int32 × Int32 × Int64 × Int64 := (fX7_stepByLaw fN P_count fPT fPF L_count L_fault tp fLP vf pl sp po si he ti wa sg dr gd op os).2
    let r_12 : Int32 := fX0_distance u_8.2.2.1
    if r_12 < 1000 then (
    lpX7_begins_24 fN P_count fPT fPF L_count L_fault fLP N (i + 1) u_8.2.2.1 u_8.2.2.2.1 u_8.2.2.2.2.1 u_8.2.2.2.2.2.1 u_8.2.2.2.2.2.2.1 u_8.2.2.2.2.2.2.2.1 u_8.2.2.2.2.2.2.2.2.1 u_8.2.2.2.2.2.2.2.2.2.1 u_8.2.2.2.2.2.2.2.2.2.2.1 u_8.2.2.2.2.2.2.2.2.2.2.2.1 u_8.2.2.2.2.2.2.2.2.2.2.2.2.1 u_8.2.2.2.2.2.2.2.2.2.2.2.2.2 u_8.1 u_8.2.1)
    else (
    (i, u_8.1, u_8.2.1, u_8.2.2.1, u_8.2.2.2.1, u_8.2.2.2.2.1, u_8.2.2.2.2.2.1, u_8.2.2.2.2.2.2.1, u_8.2.2.2.2.2.2.2.1, u_8.2.2.2.2.2.2.2.2.1, u_8.2.2.2.2.2.2.2.2.2.1, u_8.2.2.2.2.2.2.2.2.2.2.1, u_8.2.2.2.2.2.2.2.2.2.2.2.1, u_8.2.2.2.2.2.2.2.2.2.2.2.2.1, u_8.2.2.2.2.2.2.2.2.2.2.2.2.2)))

def fX7_begins (fN : Nat → Int32) (P_count : Int32) (fPT : Nat → Int32) (fPF : Nat → Int32) (L_count : Int32) (L_fault : Int32) (L_top : Int32) (fLP : Nat → Int32) (fLV : Nat → Int64) (C_place : Int64) (C_speed : Int64) (C_posture : Int32) (C_since : Int32) (C_height : Int32) (C_ticks : Int32) (C_way : Int32) (C_strength : Int32) (C_drops : Int32) (C_greatestDrop : Int32) (C_otherPlace : Int64) (C_otherSpeed : Int64) : Int32 × Int32 × (Nat → Int64) × Int64 × Int64 × Int32 × Int32 × Int32 × Int32 × Int32 × Int32 × Int32 × Int32 × Int64 × Int64 :=
  let u_1 : Int64 × Int64 × Int32 × Int32 × Int32 × Int32 × Int32 × Int32 × Int32 × Int32 × Int64 × Int64 := fX0_become C_place C_speed C_posture C_since C_height C_ticks C_way C_strength C_drops C_greatestDrop C_otherPlace C_otherSpeed
  let u_4 : Int64 × Int64 × Int32 × Int32 × Int32 × Int32 × Int64 × Int64 := fX0_startFrom 0
  lpX7_begins_24 fN P_count fPT fPF L_count L_fault fLP (501) 1 u_4.1 u_4.2.1 u_4.2.2.1 u_4.2.2.2.1 u_4.2.2.2.2.1 u_1.2.2.2.2.2.1 u_4.2.2.2.2.2.1 u_1.2.2.2.2.2.2.2.1 u_1.2.2.2.2.2.2.2.2.1 u_1.2.2.2.2.2.2.2.2.2.1 u_4.2.2.2.2.2.2.1 u_4.2.2.2.2.2.2.2 L_top fLV

set_option maxHeartbeats 4000000 in
set_option maxRecDepth 100000 in
theorem c_X7_begins (l : Launch) (G : va_G) (aY aS aN aP aPT aPF aL aLP aLV aC aD rY_images rY_kept rY_reader rY_stages rY_row rY_bestRow rS_text rS_turns : Nat) (cN cPT cPF cLP cLV : ClassId) (Y_bestPeak : Int32) (Y_bads : Int32) (Y_noes : Int32) (Y_fulls : Int32) (fN : Nat → Int32) (P_count : Int32) (fPT : Nat → Int32) (fPF : Nat → Int32) (L_count : Int32) (L_fault : Int32) (L_top : Int32) (fLP : Nat → Int32) (fLV : Nat → Int64) (C_place : Int64) (C_speed : Int64) (C_posture : Int32) (C_since : Int32) (C_height : Int32) (C_ticks : Int32) (C_way : Int32) (C_strength : Int32) (C_drops : Int32) (C_greatestDrop : Int32) (C_otherPlace : Int64) (C_otherSpeed : Int64) (D_place : Int64) (D_speed : Int64) (D_posture : Int32) (D_since : Int32) (D_height : Int32) (D_ticks : Int32) (D_way : Int32) (D_strength : Int32) (D_drops : Int32) (D_greatestDrop : Int32) (D_otherPlace : Int64) (D_otherSpeed : Int64) (hc : L_count.toInt ≤ 60) : kCi l yX7_begins (Cond.code yX7_begins cX7_begins 2 (some .int) :: wsL_law) ({ frames := 6, cells := 0, slots := 0, locals := 150 }) G [(cN, .int), (cPT, .int), (cPF, .int), (cLP, .int), (cLV, .long)] [.ref aY] [(aY, .inr (7, [.ref aS, .ref rY_images, .ref rY_kept, .ref aL, .ref rY_reader, .ref aD, .ref rY_stages, .ref rY_row, .ref rY_bestRow, .int Y_bestPeak, .int Y_bads, .int Y_noes, .int Y_fulls])), (aS, .inr (4, [.ref aN, .ref rS_text, .ref aP, .ref aC, .ref rS_turns])), (aN, .inl (cN, 8, .inl fN)), (aP, .inr (3, [.ref aPT, .ref aPF, .int P_count])), (aPT, .inl (cPT, 8, .inl fPT)), (aPF, .inl (cPF, 8, .inl fPF)), (aL, .inr (1, [.ref aLP, .int L_count, .int L_fault, .ref aLV, .int L_top])), (aLP, .inl (cLP, 60, .inl fLP)), (aLV, .inl (cLV, 60, .inr (.inl fLV))), (aC, .inr (0, [.long C_place, .long C_speed, .int C_posture, .int C_since, .int C_height, .int C_ticks, .int C_way, .int C_strength, .int C_drops, .int C_greatestDrop, .long C_otherPlace, .long C_otherSpeed])), (aD, .inr (0, [.long D_place, .long D_speed, .int D_posture, .int D_since, .int D_height, .int D_ticks, .int D_way, .int D_strength, .int D_drops, .int D_greatestDrop, .long D_otherPlace, .long D_otherSpeed]))] (fun (r : Int32) (u : Int32 × (Nat → Int64) × Int64 × Int64 × Int32 × Int32 × Int32 × Int32 × Int32 × Int32 × Int32 × Int32 × Int64 × Int64) => r = (fX7_begins fN P_count fPT fPF L_count L_fault L_top fLP fLV C_place C_speed C_posture C_since C_height C_ticks C_way C_strength C_drops C_greatestDrop C_otherPlace C_otherSpeed).1 ∧ u = (fX7_begins fN P_count fPT fPF L_count L_fault L_top fLP fLV C_place C_speed C_posture C_since C_height C_ticks C_way C_strength C_drops C_greatestDrop C_otherPlace C_otherSpeed).2) (fun (u : Int32 × (Nat → Int64) × Int64 × Int64 × Int32 × Int32 × Int32 × Int32 × Int32 × Int32 × Int32 × Int32 × Int64 × Int64) => [(aY, .inr (7, [.ref aS, .ref rY_images, .ref rY_kept, .ref aL, .ref rY_reader, .ref aD, .ref rY_stages, .ref rY_row, .ref rY_bestRow, .int Y_bestPeak, .int Y_bads, .int Y_noes, .int Y_fulls])), (aS, .inr (4, [.ref aN, .ref rS_text, .ref aP, .ref aC, .ref rS_turns])), (aN, .inl (cN, 8, .inl fN)), (aP, .inr (3, [.ref aPT, .ref aPF, .int P_count])), (aPT, .inl (cPT, 8, .inl fPT)), (aPF, .inl (cPF, 8, .inl fPF)), (aL, .inr (1, [.ref aLP, .int L_count, .int L_fault, .ref aLV, .int u.1])), (aLP, .inl (cLP, 60, .inl fLP)), (aLV, .inl (cLV, 60, .inr (.inl u.2.1))), (aC, .inr (0, [.long C_place, .long C_speed, .int C_posture, .int C_since, .int C_height, .int C_ticks, .int C_way, .int C_strength, .int C_drops, .int C_greatestDrop, .long C_otherPlace, .long C_otherSpeed])), (aD, .inr (0, [.long u.2.2.1, .long u.2.2.2.1, .int u.2.2.2.2.1, .int u.2.2.2.2.2.1, .int u.2.2.2.2.2.2.1, .int u.2.2.2.2.2.2.2.1, .int u.2.2.2.2.2.2.2.2.1, .int u.2.2.2.2.2.2.2.2.2.1, .int u.2.2.2.2.2.2.2.2.2.2.1, .int u.2.2.2.2.2.2.2.2.2.2.2.1, .long u.2.2.2.2.2.2.2.2.2.2.2.2.1, .long u.2.2.2.2.2.2.2.2.2.2.2.2.2]))]) := by
  intro sz
  refine Met.ofW (cc := cX7_begins) (maxL := 2) (ret := (some .int)) (by decide) rfl ?_
  intro p e s m args below meth c s₁ B hml hv
  obtain ⟨rfl, hv⟩ := hv
  obtain ⟨rfl, hK, hq, hA⟩ := kk_begin hv
  have hx := B.exec
  have hb := B.bytes
  have hr := B.returns
  have hts := atoms_spec (ws := (Cond.code yX7_begins cX7_begins 2 (some .int) :: wsL_law)) B.pre
  have hown : s.vm.findClass RX7 = some m.cls := findClass_of_methodNamed B.named
  have hlocks := B.notSynchronized
  have hsb : ∀ w ∈ wsL_law, w ∈ (Cond.code yX7_begins cX7_begins 2 (some .int) :: wsL_law) := fun _ h => List.mem_cons_of_mem _ h
  generalize va_A [(aY, .inr (7, [.ref aS, .ref rY_images, .ref rY_kept, .ref aL, .ref rY_reader, .ref aD, .ref rY_stages, .ref rY_row, .ref rY_bestRow, .int Y_bestPeak, .int Y_bads, .int Y_noes, .int Y_fulls])), (aS, .inr (4, [.ref aN, .ref rS_text, .ref aP, .ref aC, .ref rS_turns])), (aN, .inl (cN, 8, .inl fN)), (aP, .inr (3, [.ref aPT, .ref aPF, .int P_count])), (aPT, .inl (cPT, 8, .inl fPT)), (aPF, .inl (cPF, 8, .inl fPF)), (aL, .inr (1, [.ref aLP, .int L_count, .int L_fault, .ref aLV, .int L_top])), (aLP, .inl (cLP, 60, .inl fLP)), (aLV, .inl (cLV, 60, .inr (.inl fLV))), (aC, .inr (0, [.long C_place, .long C_speed, .int C_posture, .int C_since, .int C_height, .int C_ticks, .int C_way, .int C_strength, .int C_drops, .int C_greatestDrop, .long C_otherPlace, .long C_otherSpeed])), (aD, .inr (0, [.long D_place, .long D_speed, .int D_posture, .int D_since, .int D_height, .int D_ticks, .int D_way, .int D_strength, .int D_drops, .int D_greatestDrop, .long D_otherPlace, .long D_otherSpeed]))] s.heap.size = A at hq hA ⊢
  have iX4 : ∀ w ∈ u_ws RX4 TX4 5, w ∈ (Cond.code yX7_begins cX7_begins 2 (some .int) :: wsL_law) := fun w h => hsb w (bin_X4 w h)
  have iX7 : ∀ w ∈ u_ws RX7 TX7 13, w ∈ (Cond.code yX7_begins cX7_begins 2 (some .int) :: wsL_law) := fun w h => hsb w (bin_X7 w h)
  have lk0_ := hts _ (hsb _ wd_31)
  have lk1_ := hts _ (hsb _ wd_15)
  have lk2_ := hts _ (hsb _ wd_369)
  have hl := lv_entry ([.ref aY]) (n := 2) (Nat.le_of_ble_eq_true rfl)
  rw [lg_entry_eq]
  generalize (lg_sl ([.ref aY]) ++ List.replicate (2 - (lg_sl ([.ref aY])).length) Slot.unset).toArray = ls at hl ⊢
  have hl : lv_has ls 2 [(0, .ref aY)] := hl
  refine lv_aload_n hx hb dX7_begins_0 rfl (lv_at hl 0 rfl) ?_
  refine kk_get (ci := 7) (v := .ref aD) (C := RX7) (T := TX7) (N := 13) hx hb hts iX7 hown hK hq 0 rfl rfl 5 (by decide) lk0_ rfl dX7_begins_1 ?_
  refine lv_aload_n hx hb dX7_begins_4 rfl (lv_at hl 0 rfl) ?_
  refine kk_get (ci := 7) (v := .ref aS) (C := RX7) (T := TX7) (N := 13) hx hb hts iX7 hown hK hq 0 rfl rfl 0 (by decide) lk1_ rfl dX7_begins_5 ?_
  refine kk_get (ci := 4) (v := .ref aC) (C := RX4) (T := TX4) (N := 5) hx hb hts iX4 hown hK hq 1 rfl rfl 3 (by decide) lk2_ rfl dX7_begins_8 ?_
  refine kk_Vv (As := [.ref aC]) (rest := []) (wr := [(aY, .inr (7, [.ref aS, .ref rY_images, .ref rY_kept, .ref aL, .ref rY_reader, .ref aD, .ref rY_stages, .ref rY_row, .ref rY_bestRow, .int Y_bestPeak, .int Y_bads, .int Y_noes, .int Y_fulls])), (aS, .inr (4, [.ref aN, .ref rS_text, .ref aP, .ref aC, .ref rS_turns])), (aN, .inl (cN, 8, .inl fN)), (aP, .inr (3, [.ref aPT, .ref aPF, .int P_count])), (aPT, .inl (cPT, 8, .inl fPT)), (aPF, .inl (cPF, 8, .inl fPF)), (aL, .inr (1, [.ref aLP, .int L_count, .int L_fault, .ref aLV, .int L_top])), (aLP, .inl (cLP, 60, .inl fLP)), (aLV, .inl (cLV, 60, .inr (.inl fLV)))]) ⟨hx, hb, hml, hown, hts⟩ (c_X0_become l G aD aC D_place D_speed D_posture D_since D_height D_ticks D_way D_strength D_drops D_greatestDrop D_otherPlace D_otherSpeed C_place C_speed C_posture C_since C_height C_ticks C_way C_strength C_drops C_greatestDrop C_otherPlace C_otherSpeed) (kk_cwV 1 hts hsb wd_617 wd_618 wd_619 wd_30 wd_620 rfl rfl hd_X0_become ⟨Nat.le_of_ble_eq_true rfl, Nat.le_of_ble_eq_true rfl⟩) hA hK hq [10, 9] [0, 1, 2, 3, 4, 5, 6, 7, 8] [] rfl rfl rfl (by decide) (by decide) (by decide) 0 0 rfl rfl rfl rfl hl.1 rfl (Nat.le_of_ble_eq_true rfl) dX7_begins_11 ⟨Nat.zero_le _, Nat.zero_le _⟩ (fun u_1 H locs h_3 hq => ?_)
  have eu_1 := h_3
  have hq : kAt G A s [(aY, .inr (7, [.ref aS, .ref rY_images, .ref rY_kept, .ref aL, .ref rY_reader, .ref aD, .ref rY_stages, .ref rY_row, .ref rY_bestRow, .int Y_bestPeak, .int Y_bads, .int Y_noes, .int Y_fulls])), (aS, .inr (4, [.ref aN, .ref rS_text, .ref aP, .ref aC, .ref rS_turns])), (aN, .inl (cN, 8, .inl fN)), (aP, .inr (3, [.ref aPT, .ref aPF, .int P_count])), (aPT, .inl (cPT, 8, .inl fPT)), (aPF, .inl (cPF, 8, .inl fPF)), (aL, .inr (1, [.ref aLP, .int L_count, .int L_fault, .ref aLV, .int L_top])), (aLP, .inl (cLP, 60, .inl fLP)), (aLV, .inl (cLV, 60, .inr (.inl fLV))), (aD, .inr (0, [.long u_1.1, .long u_1.2.1, .int u_1.2.2.1, .int u_1.2.2.2.1, .int u_1.2.2.2.2.1, .int u_1.2.2.2.2.2.1, .int u_1.2.2.2.2.2.2.1, .int u_1.2.2.2.2.2.2.2.1, .int u_1.2.2.2.2.2.2.2.2.1, .int u_1.2.2.2.2.2.2.2.2.2.1, .long u_1.2.2.2.2.2.2.2.2.2.2.1, .long u_1.2.2.2.2.2.2.2.2.2.2.2])), (aC, .inr (0, [.long C_place, .long C_speed, .int C_posture, .int C_since, .int C_height, .int C_ticks, .int C_way, .int C_strength, .int C_drops, .int C_greatestDrop, .long C_otherPlace, .long C_otherSpeed]))] H locs := hq
  refine lv_aload_n hx hb dX7_begins_14 rfl (lv_at hl 0 rfl) ?_
  refine kk_get (ci := 7) (v := .ref aD) (C := RX7) (T := TX7) (N := 13) hx hb hts iX7 hown hK hq 0 rfl rfl 5 (by decide) lk0_ rfl dX7_begins_15 ?_
  refine lv_iconst (v := 0) hx hb dX7_begins_18 (by decide) ?_
  refine kk_Vv (As := [.int 0]) (rest := []) (wr := [(aY, .inr (7, [.ref aS, .ref rY_images, .ref rY_kept, .ref aL, .ref rY_reader, .ref aD, .ref rY_stages, .ref rY_row, .ref rY_bestRow, .int Y_bestPeak, .int Y_bads, .int Y_noes, .int Y_fulls])), (aS, .inr (4, [.ref aN, .ref rS_text, .ref aP, .ref aC, .ref rS_turns])), (aN, .inl (cN, 8, .inl fN)), (aP, .inr (3, [.ref aPT, .ref aPF, .int P_count])), (aPT, .inl (cPT, 8, .inl fPT)), (aPF, .inl (cPF, 8, .inl fPF)), (aL, .inr (1, [.ref aLP, .int L_count, .int L_fault, .ref aLV, .int L_top])), (aLP, .inl (cLP, 60, .inl fLP)), (aLV, .inl (cLV, 60, .inr (.inl fLV))), (aC, .inr (0, [.long C_place, .long C_speed, .int C_posture, .int C_since, .int C_height, .int C_ticks, .int C_way, .int C_strength, .int C_drops, .int C_greatestDrop, .long C_otherPlace, .long C_otherSpeed]))]) ⟨hx, hb, hml, hown, hts⟩ (c_X0_startFrom l G aD 0 u_1.1 u_1.2.1 u_1.2.2.1 u_1.2.2.2.1 u_1.2.2.2.2.1 u_1.2.2.2.2.2.1 u_1.2.2.2.2.2.2.1 u_1.2.2.2.2.2.2.2.1 u_1.2.2.2.2.2.2.2.2.1 u_1.2.2.2.2.2.2.2.2.2.1 u_1.2.2.2.2.2.2.2.2.2.2.1 u_1.2.2.2.2.2.2.2.2.2.2.2) (kk_cwV 1 hts hsb wd_674 wd_376 wd_377 wd_30 wd_378 rfl rfl hd_X0_startFrom ⟨Nat.le_of_ble_eq_true rfl, Nat.le_of_ble_eq_true rfl⟩) hA hK hq [9] [0, 1, 2, 3, 4, 5, 6, 7, 8, 10] [] rfl rfl rfl (by decide) (by decide) (by decide) 0 0 rfl rfl rfl rfl hl.1 rfl (Nat.le_of_ble_eq_true rfl) dX7_begins_19 ⟨Nat.zero_le _, Nat.zero_le _⟩ (fun u_4 H locs h_6 hq => ?_)
  have eu_4 := h_6
  have hq : kAt G A s [(aY, .inr (7, [.ref aS, .ref rY_images, .ref rY_kept, .ref aL, .ref rY_reader, .ref aD, .ref rY_stages, .ref rY_row, .ref rY_bestRow, .int Y_bestPeak, .int Y_bads, .int Y_noes, .int Y_fulls])), (aS, .inr (4, [.ref aN, .ref rS_text, .ref aP, .ref aC, .ref rS_turns])), (aN, .inl (cN, 8, .inl fN)), (aP, .inr (3, [.ref aPT, .ref aPF, .int P_count])), (aPT, .inl (cPT, 8, .inl fPT)), (aPF, .inl (cPF, 8, .inl fPF)), (aL, .inr (1, [.ref aLP, .int L_count, .int L_fault, .ref aLV, .int L_top])), (aLP, .inl (cLP, 60, .inl fLP)), (aLV, .inl (cLV, 60, .inr (.inl fLV))), (aC, .inr (0, [.long C_place, .long C_speed, .int C_posture, .int C_since, .int C_height, .int C_ticks, .int C_way, .int C_strength, .int C_drops, .int C_greatestDrop, .long C_otherPlace, .long C_otherSpeed])), (aD, .inr (0, [.long u_4.1, .long u_4.2.1, .int u_4.2.2.1, .int u_4.2.2.2.1, .int u_4.2.2.2.2.1, .int u_1.2.2.2.2.2.1, .int u_4.2.2.2.2.2.1, .int u_1.2.2.2.2.2.2.2.1, .int u_1.2.2.2.2.2.2.2.2.1, .int u_1.2.2.2.2.2.2.2.2.2.1, .long u_4.2.2.2.2.2.2.1, .long u_4.2.2.2.2.2.2.2]))] H locs := hq
  refine lv_iconst (v := 1) hx hb dX7_begins_22 (by decide) ?_
  refine lv_istore_n (lv' := [(1, .int 1), (0, .ref aY)]) hx hb dX7_begins_23 rfl hl (by decide) rfl (fun ls hl => ?_)
  refine kk_loop15 (fun N24 (i : Int32) (pl : Int64) (sp : Int64) (po : Int32) (si : Int32) (he : Int32) (ti : Int32) (wa : Int32) (sg : Int32) (dr : Int32) (gd : Int32) (op : Int64) (os : Int64) (tp : Int32) (vf : Nat → Int64) (H : Heap) (locs : List Loc) (ls : Array Slot) => lpX7_begins_24 fN P_count fPT fPF L_count L_fault fLP (501) 1 u_4.1 u_4.2.1 u_4.2.2.1 u_4.2.2.2.1 u_4.2.2.2.2.1 u_1.2.2.2.2.2.1 u_4.2.2.2.2.2.1 u_1.2.2.2.2.2.2.2.1 u_1.2.2.2.2.2.2.2.2.1 u_1.2.2.2.2.2.2.2.2.2.1 u_4.2.2.2.2.2.2.1 u_4.2.2.2.2.2.2.2 L_top fLV = lpX7_begins_24 fN P_count fPT fPF L_count L_fault fLP N24 i pl sp po si he ti wa sg dr gd op os tp vf ∧ (1 ≤ i.toInt) ∧ (i.toInt ≤ 501) ∧ (i.toInt + N24 = 502) ∧ lv_has ls 2 [(1, .int i), (0, .ref aY)] ∧ kAt G A s [(aY, .inr (7, [.ref aS, .ref rY_images, .ref rY_kept, .ref aL, .ref rY_reader, .ref aD, .ref rY_stages, .ref rY_row, .ref rY_bestRow, .int Y_bestPeak, .int Y_bads, .int Y_noes, .int Y_fulls])), (aS, .inr (4, [.ref aN, .ref rS_text, .ref aP, .ref aC, .ref rS_turns])), (aN, .inl (cN, 8, .inl fN)), (aP, .inr (3, [.ref aPT, .ref aPF, .int P_count])), (aPT, .inl (cPT, 8, .inl fPT)), (aPF, .inl (cPF, 8, .inl fPF)), (aL, .inr (1, [.ref aLP, .int L_count, .int L_fault, .ref aLV, .int tp])), (aLP, .inl (cLP, 60, .inl fLP)), (aLV, .inl (cLV, 60, .inr (.inl vf))), (aC, .inr (0, [.long C_place, .long C_speed, .int C_posture, .int C_since, .int C_height, .int C_ticks, .int C_way, .int C_strength, .int C_drops, .int C_greatestDrop, .long C_otherPlace, .long C_otherSpeed])), (aD, .inr (0, [.long pl, .long sp, .int po, .int si, .int he, .int ti, .int wa, .int sg, .int dr, .int gd, .long op, .long os]))] H locs) 24 (fun i pl sp po si he ti wa sg dr gd op os tp vf => []) (fun i pl sp po si he ti wa sg dr gd op os tp vf H locs ls hv => ?_) (fun N24 i pl sp po si he ti wa sg dr gd op os tp vf H locs ls ih24 hv => ?_) (501) 1 u_4.1 u_4.2.1 u_4.2.2.1 u_4.2.2.2.1 u_4.2.2.2.2.1 u_1.2.2.2.2.2.1 u_4.2.2.2.2.2.1 u_1.2.2.2.2.2.2.2.1 u_1.2.2.2.2.2.2.2.2.1 u_1.2.2.2.2.2.2.2.2.2.1 u_4.2.2.2.2.2.2.1 u_4.2.2.2.2.2.2.2 L_top fLV _ _ _ ⟨rfl, (by decide), (by decide), (by decide), lv_sub hl [0, 1] rfl, hq⟩
  · skip
    obtain ⟨hrel24, i0, i1, hN, hl, hq⟩ := hv
    omega
  · skip
    obtain ⟨hrel24, i0, i1, hN, hl, hq⟩ := hv
    refine lv_iload_n hx hb dX7_begins_24 rfl (lv_at hl 0 rfl) ?_
    refine lv_sipush (v := 500) hx hb dX7_begins_25 (by decide) ?_
    refine lv_icmp_gt (tgt := 61) hx hb dX7_begins_28 (by decide) (fun c_7 => ?_) (fun c_7 => ?_)
    · skip
      refine lv_iconst (v := -1) hx hb dX7_begins_61 (by decide) ?_
      have hf : (((-1), tp, vf, pl, sp, po, si, he, ti, wa, sg, dr, gd, op, os) : Int32 × Int32 × (Nat → Int64) × Int64 × Int64 × Int32 × Int32 × Int32 × Int32 × Int32 × Int32 × Int32 × Int32 × Int64 × Int64) = fX7_begins fN P_count fPT fPF L_count L_fault L_top fLP fLV C_place C_speed C_posture C_since C_height C_ticks C_way C_strength C_drops C_greatestDrop C_otherPlace C_otherSpeed := by
        exact ((congrArg (fun (u_1 : Int64 × Int64 × Int32 × Int32 × Int32 × Int32 × Int32 × Int32 × Int32 × Int32 × Int64 × Int64) => ((let u_4 : Int64 × Int64 × Int32 × Int32 × Int32 × Int32 × Int64 × Int64 := fX0_startFrom 0
  lpX7_begins_24 fN P_count fPT fPF L_count L_fault fLP (501) 1 u_4.1 u_4.2.1 u_4.2.2.1 u_4.2.2.2.1 u_4.2.2.2.2.1 u_1.2.2.2.2.2.1 u_4.2.2.2.2.2.1 u_1.2.2.2.2.2.2.2.1 u_1.2.2.2.2.2.2.2.2.1 u_1.2.2.2.2.2.2.2.2.2.1 u_4.2.2.2.2.2.2.1 u_4.2.2.2.2.2.2.2 L_top fLV) : Int32 × Int32 × (Nat → Int64) × Int64 × Int64 × Int32 × Int32 × Int32 × Int32 × Int32 × Int32 × Int32 × Int32 × Int64 × Int64)) eu_1.symm).trans ((congrArg (fun (u_4 : Int64 × Int64 × Int32 × Int32 × Int32 × Int32 × Int64 × Int64) => ((lpX7_begins_24 fN P_count fPT fPF L_count L_fault fLP (501) 1 u_4.1 u_4.2.1 u_4.2.2.1 u_4.2.2.2.1 u_4.2.2.2.2.1 u_1.2.2.2.2.2.1 u_4.2.2.2.2.2.1 u_1.2.2.2.2.2.2.2.1 u_1.2.2.2.2.2.2.2.2.1 u_1.2.2.2.2.2.2.2.2.2.1 u_4.2.2.2.2.2.2.1 u_4.2.2.2.2.2.2.2 L_top fLV) : Int32 × Int32 × (Nat → Int64) × Int64 × Int64 × Int32 × Int32 × Int32 × Int32 × Int32 × Int32 × Int32 × Int32 × Int64 × Int64)) eu_4.symm).trans (hrel24.trans ((if_pos c_7))))).symm
      have hf1 := congrArg Prod.fst hf
      have hf2 := congrArg Prod.snd hf
      exact kk_ei hx hb hr hlocks hK hq [0, 1, 2, 3, 4, 5, 6, 7, 8, 9, 10] (tp, vf, pl, sp, po, si, he, ti, wa, sg, dr, gd, op, os) rfl (by decide) dX7_begins_62 ⟨hf1, hf2⟩
    · skip
      have hi := kk_ngt (k := 500) rfl c_7
      refine lv_aload_n hx hb dX7_begins_31 rfl (lv_at hl 1 rfl) ?_
      refine lv_aload_n hx hb dX7_begins_32 rfl (lv_at hl 1 rfl) ?_
      refine kk_get (ci := 7) (v := .ref aD) (C := RX7) (T := TX7) (N := 13) hx hb hts iX7 hown hK hq 0 rfl rfl 5 (by decide) lk0_ rfl dX7_begins_33 ?_
      refine kk_Vi (As := [.ref aD]) (rest := []) (wr := [(aC, .inr (0, [.long C_place, .long C_speed, .int C_posture, .int C_since, .int C_height, .int C_ticks, .int C_way, .int C_strength, .int C_drops, .int C_greatestDrop, .long C_otherPlace, .long C_otherSpeed]))]) ⟨hx, hb, hml, hown, hts⟩ (c_X7_stepByLaw l G aY aS aN aP aPT aPF aL aLP aLV aD rY_images rY_kept rY_reader aD rY_stages rY_row rY_bestRow rS_text aC rS_turns cN cPT cPF cLP cLV Y_bestPeak Y_bads Y_noes Y_fulls fN P_count fPT fPF L_count L_fault tp fLP vf pl sp po si he ti wa sg dr gd op os (by assumption)) (kk_cwV 1 hts hsb wd_412 wd_413 wd_414 wd_2 wd_415 rfl rfl hd_X7_stepByLaw ⟨Nat.le_of_ble_eq_true rfl, Nat.le_of_ble_eq_true rfl⟩) hA hK hq [0, 1, 2, 3, 4, 5, 6, 7, 8, 10] [9] [0, 1, 2, 3, 4] rfl rfl rfl (by decide) (by decide) (by decide) 0 7 rfl rfl rfl rfl hl.1 rfl (Nat.le_of_ble_eq_true rfl) dX7_begins_36 ⟨Nat.zero_le _, Nat.zero_le _⟩ (fun r_9 u_8 H locs h_10 hq => ?_)
      obtain ⟨er_9, eu_8, zr_9⟩ := h_10
      have hq : kAt G A s [(aC, .inr (0, [.long C_place, .long C_speed, .int C_posture, .int C_since, .int C_height, .int C_ticks, .int C_way, .int C_strength, .int C_drops, .int C_greatestDrop, .long C_otherPlace, .long C_otherSpeed])), (aY, .inr (7, [.ref aS, .ref rY_images, .ref rY_kept, .ref aL, .ref rY_reader, .ref aD, .ref rY_stages, .ref rY_row, .ref rY_bestRow, .int Y_bestPeak, .int Y_bads, .int Y_noes, .int Y_fulls])), (aS, .inr (4, [.ref aN, .ref rS_text, .ref aP, .ref aC, .ref rS_turns])), (aN, .inl (cN, 8, .inl fN)), (aP, .inr (3, [.ref aPT, .ref aPF, .int P_count])), (aPT, .inl (cPT, 8, .inl fPT)), (aPF, .inl (cPF, 8, .inl fPF)), (aL, .inr (1, [.ref aLP, .int L_count, .int L_fault, .ref aLV, .int u_8.1])), (aLP, .inl (cLP, 60, .inl fLP)), (aLV, .inl (cLV, 60, .inr (.inl u_8.2.1))), (aD, .inr (0, [.long u_8.2.2.1, .long u_8.2.2.2.1, .int u_8.2.2.2.2.1, .int u_8.2.2.2.2.2.1, .int u_8.2.2.2.2.2.2.1, .int u_8.2.2.2.2.2.2.2.1, .int u_8.2.2.2.2.2.2.2.2.1, .int u_8.2.2.2.2.2.2.2.2.2.1, .int u_8.2.2.2.2.2.2.2.2.2.2.1, .int u_8.2.2.2.2.2.2.2.2.2.2.2.1, .long u_8.2.2.2.2.2.2.2.2.2.2.2.2.1, .long u_8.2.2.2.2.2.2.2.2.2.2.2.2.2]))] H locs := hq
      refine lv_pop hx hb dX7_begins_39 rfl ?_
      refine lv_aload_n hx hb dX7_begins_40 rfl (lv_at hl 1 rfl) ?_
      refine kk_get (ci := 7) (v := .ref aD) (C := RX7) (T := TX7) (N := 13) hx hb hts iX7 hown hK hq 1 rfl rfl 5 (by decide) lk0_ rfl dX7_begins_41 ?_
      refine kk_Vi (As := []) (rest := []) (wr := [(aC, .inr (0, [.long C_place, .long C_speed, .int C_posture, .int C_since, .int C_height, .int C_ticks, .int C_way, .int C_strength, .int C_drops, .int C_greatestDrop, .long C_otherPlace, .long C_otherSpeed])), (aY, .inr (7, [.ref aS, .ref rY_images, .ref rY_kept, .ref aL, .ref rY_reader, .ref aD, .ref rY_stages, .ref rY_row, .ref rY_bestRow, .int Y_bestPeak, .int Y_bads, .int Y_noes, .int Y_fulls])), (aS, .inr (4, [.ref aN, .ref rS_text, .ref aP, .ref aC, .ref rS_turns])), (aN, .inl (cN, 8, .inl fN)), (aP, .inr (3, [.ref aPT, .ref aPF, .int P_count])), (aPT, .inl (cPT, 8, .inl fPT)), (aPF, .inl (cPF, 8, .inl fPF)), (aL, .inr (1, [.ref aLP, .int L_count, .int L_fault, .ref aLV, .int u_8.1])), (aLP, .inl (cLP, 60, .inl fLP)), (aLV, .inl (cLV, 60, .inr (.inl u_8.2.1)))]) ⟨hx, hb, hml, hown, hts⟩ (c_X0_distance l G aD u_8.2.2.1 u_8.2.2.2.1 u_8.2.2.2.2.1 u_8.2.2.2.2.2.1 u_8.2.2.2.2.2.2.1 u_8.2.2.2.2.2.2.2.1 u_8.2.2.2.2.2.2.2.2.1 u_8.2.2.2.2.2.2.2.2.2.1 u_8.2.2.2.2.2.2.2.2.2.2.1 u_8.2.2.2.2.2.2.2.2.2.2.2.1 u_8.2.2.2.2.2.2.2.2.2.2.2.2.1 u_8.2.2.2.2.2.2.2.2.2.2.2.2.2) (kk_cwV 0 hts hsb wd_621 wd_380 wd_381 wd_30 wd_382 rfl rfl hd_X0_distance ⟨Nat.le_of_ble_eq_true rfl, Nat.le_of_ble_eq_true rfl⟩) hA hK hq [10] [0, 1, 2, 3, 4, 5, 6, 7, 8, 9] [] rfl rfl rfl (by decide) (by decide) (by decide) 0 0 rfl rfl rfl rfl hl.1 rfl (Nat.le_of_ble_eq_true rfl) dX7_begins_44 ⟨Nat.zero_le _, Nat.zero_le _⟩ (fun r_12 u_11 H locs h_13 hq => ?_)
      have er_12 := h_13
      have hq : kAt G A s [(aC, .inr (0, [.long C_place, .long C_speed, .int C_posture, .int C_since, .int C_height, .int C_ticks, .int C_way, .int C_strength, .int C_drops, .int C_greatestDrop, .long C_otherPlace, .long C_otherSpeed])), (aY, .inr (7, [.ref aS, .ref rY_images, .ref rY_kept, .ref aL, .ref rY_reader, .ref aD, .ref rY_stages, .ref rY_row, .ref rY_bestRow, .int Y_bestPeak, .int Y_bads, .int Y_noes, .int Y_fulls])), (aS, .inr (4, [.ref aN, .ref rS_text, .ref aP, .ref aC, .ref rS_turns])), (aN, .inl (cN, 8, .inl fN)), (aP, .inr (3, [.ref aPT, .ref aPF, .int P_count])), (aPT, .inl (cPT, 8, .inl fPT)), (aPF, .inl (cPF, 8, .inl fPF)), (aL, .inr (1, [.ref aLP, .int L_count, .int L_fault, .ref aLV, .int u_8.1])), (aLP, .inl (cLP, 60, .inl fLP)), (aLV, .inl (cLV, 60, .inr (.inl u_8.2.1))), (aD, .inr (0, [.long u_8.2.2.1, .long u_8.2.2.2.1, .int u_8.2.2.2.2.1, .int u_8.2.2.2.2.2.1, .int u_8.2.2.2.2.2.2.1, .int u_8.2.2.2.2.2.2.2.1, .int u_8.2.2.2.2.2.2.2.2.1, .int u_8.2.2.2.2.2.2.2.2.2.1, .int u_8.2.2.2.2.2.2.2.2.2.2.1, .int u_8.2.2.2.2.2.2.2.2.2.2.2.1, .long u_8.2.2.2.2.2.2.2.2.2.2.2.2.1, .long u_8.2.2.2.2.2.2.2.2.2.2.2.2.2]))] H locs := hq
      refine lv_sipush (v := 1000) hx hb dX7_begins_47 (by decide) ?_
      refine lv_icmp_lt (tgt := 55) hx hb dX7_begins_50 (by decide) (fun c_14 => ?_) (fun c_14 => ?_)
      · skip
        refine lv_iinc (v := i + 1) (lv' := [(1, .int (i + 1)), (0, .ref aY)]) hx hb dX7_begins_55 hl (k := 0) rfl rfl (by decide) rfl (fun ls hl => ?_)
        refine lv_goto (tgt := 24) hx hb dX7_begins_58 (by decide) ?_
        exact ih24 (i + 1) u_8.2.2.1 u_8.2.2.2.1 u_8.2.2.2.2.1 u_8.2.2.2.2.2.1 u_8.2.2.2.2.2.2.1 u_8.2.2.2.2.2.2.2.1 u_8.2.2.2.2.2.2.2.2.1 u_8.2.2.2.2.2.2.2.2.2.1 u_8.2.2.2.2.2.2.2.2.2.2.1 u_8.2.2.2.2.2.2.2.2.2.2.2.1 u_8.2.2.2.2.2.2.2.2.2.2.2.2.1 u_8.2.2.2.2.2.2.2.2.2.2.2.2.2 u_8.1 u_8.2.1 _ _ _ ⟨(hrel24.trans ((if_neg c_7).trans ((congrArg (fun (r_9 : Int32) => ((let u_8 : Int32 × (Nat → Int64) × Int64 × Int64 × Int32 × Int32 × Int32 × Int32 × Int32 × Int32 × Int32 × Int32 × Int64 × Int64 := (fX7_stepByLaw fN P_count fPT fPF L_count L_fault tp fLP vf pl sp po si he ti wa sg dr gd op os).2
    let r_12 : Int32 := fX0_distance u_8.2.2.1
    if r_12 < 1000 then (
    lpX7_begins_24 fN P_count fPT fPF L_count L_fault fLP N24 (i + 1) u_8.2.2.1 u_8.2.2.2.1 u_8.2.2.2.2.1 u_8.2.2.2.2.2.1 u_8.2.2.2.2.2.2.1 u_8.2.2.2.2.2.2.2.1 u_8.2.2.2.2.2.2.2.2.1 u_8.2.2.2.2.2.2.2.2.2.1 u_8.2.2.2.2.2.2.2.2.2.2.1 u_8.2.2.2.2.2.2.2.2.2.2.2.1 u_8.2.2.2.2.2.2.2.2.2.2.2.2.1 u_8.2.2.2.2.2.2.2.2.2.2.2.2.2 u_8.1 u_8.2.1)
    else (
    (i, u_8.1, u_8.2.1, u_8.2.2.1, u_8.2.2.2.1, u_8.2.2.2.2.1, u_8.2.2.2.2.2.1, u_8.2.2.2.2.2.2.1, u_8.2.2.2.2.2.2.2.1, u_8.2.2.2.2.2.2.2.2.1, u_8.2.2.2.2.2.2.2.2.2.1, u_8.2.2.2.2.2.2.2.2.2.2.1, u_8.2.2.2.2.2.2.2.2.2.2.2.1, u_8.2.2.2.2.2.2.2.2.2.2.2.2.1, u_8.2.2.2.2.2.2.2.2.2.2.2.2.2))) : Int32 × Int32 × (Nat → Int64) × Int64 × Int64 × Int32 × Int32 × Int32 × Int32 × Int32 × Int32 × Int32 × Int32 × Int64 × Int64)) er_9.symm).trans ((congrArg (fun (u_8 : Int32 × (Nat → Int64) × Int64 × Int64 × Int32 × Int32 × Int32 × Int32 × Int32 × Int32 × Int32 × Int32 × Int64 × Int64) => ((let r_12 : Int32 := fX0_distance u_8.2.2.1
    if r_12 < 1000 then (
    lpX7_begins_24 fN P_count fPT fPF L_count L_fault fLP N24 (i + 1) u_8.2.2.1 u_8.2.2.2.1 u_8.2.2.2.2.1 u_8.2.2.2.2.2.1 u_8.2.2.2.2.2.2.1 u_8.2.2.2.2.2.2.2.1 u_8.2.2.2.2.2.2.2.2.1 u_8.2.2.2.2.2.2.2.2.2.1 u_8.2.2.2.2.2.2.2.2.2.2.1 u_8.2.2.2.2.2.2.2.2.2.2.2.1 u_8.2.2.2.2.2.2.2.2.2.2.2.2.1 u_8.2.2.2.2.2.2.2.2.2.2.2.2.2 u_8.1 u_8.2.1)
    else (
    (i, u_8.1, u_8.2.1, u_8.2.2.1, u_8.2.2.2.1, u_8.2.2.2.2.1, u_8.2.2.2.2.2.1, u_8.2.2.2.2.2.2.1, u_8.2.2.2.2.2.2.2.1, u_8.2.2.2.2.2.2.2.2.1, u_8.2.2.2.2.2.2.2.2.2.1, u_8.2.2.2.2.2.2.2.2.2.2.1, u_8.2.2.2.2.2.2.2.2.2.2.2.1, u_8.2.2.2.2.2.2.2.2.2.2.2.2.1, u_8.2.2.2.2.2.2.2.2.2.2.2.2.2))) : Int32 × Int32 × (Nat → Int64) × Int64 × Int64 × Int32 × Int32 × Int32 × Int32 × Int32 × Int32 × Int32 × Int32 × Int64 × Int64)) eu_8.symm).trans ((congrArg (fun (r_12 : Int32) => ((if r_12 < 1000 then (
    lpX7_begins_24 fN P_count fPT fPF L_count L_fault fLP N24 (i + 1) u_8.2.2.1 u_8.2.2.2.1 u_8.2.2.2.2.1 u_8.2.2.2.2.2.1 u_8.2.2.2.2.2.2.1 u_8.2.2.2.2.2.2.2.1 u_8.2.2.2.2.2.2.2.2.1 u_8.2.2.2.2.2.2.2.2.2.1 u_8.2.2.2.2.2.2.2.2.2.2.1 u_8.2.2.2.2.2.2.2.2.2.2.2.1 u_8.2.2.2.2.2.2.2.2.2.2.2.2.1 u_8.2.2.2.2.2.2.2.2.2.2.2.2.2 u_8.1 u_8.2.1)
    else (
    (i, u_8.1, u_8.2.1, u_8.2.2.1, u_8.2.2.2.1, u_8.2.2.2.2.1, u_8.2.2.2.2.2.1, u_8.2.2.2.2.2.2.1, u_8.2.2.2.2.2.2.2.1, u_8.2.2.2.2.2.2.2.2.1, u_8.2.2.2.2.2.2.2.2.2.1, u_8.2.2.2.2.2.2.2.2.2.2.1, u_8.2.2.2.2.2.2.2.2.2.2.2.1, u_8.2.2.2.2.2.2.2.2.2.2.2.2.1, u_8.2.2.2.2.2.2.2.2.2.2.2.2.2))) : Int32 × Int32 × (Nat → Int64) × Int64 × Int64 × Int32 × Int32 × Int32 × Int32 × Int32 × Int32 × Int32 × Int32 × Int64 × Int64)) er_12.symm).trans ((if_pos c_14))))))), (by have := kk_inc (x := i) (by omega); omega), (by have := kk_inc (x := i) (by omega); omega), (by have := kk_inc (x := i) (by omega); omega), lv_sub hl [0, 1] rfl, (kk_sub hq [1, 2, 3, 4, 5, 6, 7, 8, 9, 0, 10] rfl (by decide))⟩
      · skip
        refine lv_iload_n hx hb dX7_begins_53 rfl (lv_at hl 0 rfl) ?_
        have hf : ((i, u_8.1, u_8.2.1, u_8.2.2.1, u_8.2.2.2.1, u_8.2.2.2.2.1, u_8.2.2.2.2.2.1, u_8.2.2.2.2.2.2.1, u_8.2.2.2.2.2.2.2.1, u_8.2.2.2.2.2.2.2.2.1, u_8.2.2.2.2.2.2.2.2.2.1, u_8.2.2.2.2.2.2.2.2.2.2.1, u_8.2.2.2.2.2.2.2.2.2.2.2.1, u_8.2.2.2.2.2.2.2.2.2.2.2.2.1, u_8.2.2.2.2.2.2.2.2.2.2.2.2.2) : Int32 × Int32 × (Nat → Int64) × Int64 × Int64 × Int32 × Int32 × Int32 × Int32 × Int32 × Int32 × Int32 × Int32 × Int64 × Int64) = fX7_begins fN P_count fPT fPF L_count L_fault L_top fLP fLV C_place C_speed C_posture C_since C_height C_ticks C_way C_strength C_drops C_greatestDrop C_otherPlace C_otherSpeed := by
          exact ((congrArg (fun (u_1 : Int64 × Int64 × Int32 × Int32 × Int32 × Int32 × Int32 × Int32 × Int32 × Int32 × Int64 × Int64) => ((let u_4 : Int64 × Int64 × Int32 × Int32 × Int32 × Int32 × Int64 × Int64 := fX0_startFrom 0
  lpX7_begins_24 fN P_count fPT fPF L_count L_fault fLP (501) 1 u_4.1 u_4.2.1 u_4.2.2.1 u_4.2.2.2.1 u_4.2.2.2.2.1 u_1.2.2.2.2.2.1 u_4.2.2.2.2.2.1 u_1.2.2.2.2.2.2.2.1 u_1.2.2.2.2.2.2.2.2.1 u_1.2.2.2.2.2.2.2.2.2.1 u_4.2.2.2.2.2.2.1 u_4.2.2.2.2.2.2.2 L_top fLV) : Int32 × Int32 × (Nat → Int64) × Int64 × Int64 × Int32 × Int32 × Int32 × Int32 × Int32 × Int32 × Int32 × Int32 × Int64 × Int64)) eu_1.symm).trans ((congrArg (fun (u_4 : Int64 × Int64 × Int32 × Int32 × Int32 × Int32 × Int64 × Int64) => ((lpX7_begins_24 fN P_count fPT fPF L_count L_fault fLP (501) 1 u_4.1 u_4.2.1 u_4.2.2.1 u_4.2.2.2.1 u_4.2.2.2.2.1 u_1.2.2.2.2.2.1 u_4.2.2.2.2.2.1 u_1.2.2.2.2.2.2.2.1 u_1.2.2.2.2.2.2.2.2.1 u_1.2.2.2.2.2.2.2.2.2.1 u_4.2.2.2.2.2.2.1 u_4.2.2.2.2.2.2.2 L_top fLV) : Int32 × Int32 × (Nat → Int64) × Int64 × Int64 × Int32 × Int32 × Int32 × Int32 × Int32 × Int32 × Int32 × Int32 × Int64 × Int64)) eu_4.symm).trans (hrel24.trans ((if_neg c_7).trans ((congrArg (fun (r_9 : Int32) => ((let u_8 : Int32 × (Nat → Int64) × Int64 × Int64 × Int32 × Int32 × Int32 × Int32 × Int32 × Int32 × Int32 × Int32 × Int64 × Int64 := (fX7_stepByLaw fN P_count fPT fPF L_count L_fault tp fLP vf pl sp po si he ti wa sg dr gd op os).2
    let r_12 : Int32 := fX0_distance u_8.2.2.1
    if r_12 < 1000 then (
    lpX7_begins_24 fN P_count fPT fPF L_count L_fault fLP N24 (i + 1) u_8.2.2.1 u_8.2.2.2.1 u_8.2.2.2.2.1 u_8.2.2.2.2.2.1 u_8.2.2.2.2.2.2.1 u_8.2.2.2.2.2.2.2.1 u_8.2.2.2.2.2.2.2.2.1 u_8.2.2.2.2.2.2.2.2.2.1 u_8.2.2.2.2.2.2.2.2.2.2.1 u_8.2.2.2.2.2.2.2.2.2.2.2.1 u_8.2.2.2.2.2.2.2.2.2.2.2.2.1 u_8.2.2.2.2.2.2.2.2.2.2.2.2.2 u_8.1 u_8.2.1)
    else (
    (i, u_8.1, u_8.2.1, u_8.2.2.1, u_8.2.2.2.1, u_8.2.2.2.2.1, u_8.2.2.2.2.2.1, u_8.2.2.2.2.2.2.1, u_8.2.2.2.2.2.2.2.1, u_8.2.2.2.2.2.2.2.2.1, u_8.2.2.2.2.2.2.2.2.2.1, u_8.2.2.2.2.2.2.2.2.2.2.1, u_8.2.2.2.2.2.2.2.2.2.2.2.1, u_8.2.2.2.2.2.2.2.2.2.2.2.2.1, u_8.2.2.2.2.2.2.2.2.2.2.2.2.2))) : Int32 × Int32 × (Nat → Int64) × Int64 × Int64 × Int32 × Int32 × Int32 × Int32 × Int32 × Int32 × Int32 × Int32 × Int64 × Int64)) er_9.symm).trans ((congrArg (fun (u_8 : Int32 × (Nat → Int64) × Int64 × Int64 × Int32 × Int32 × Int32 × Int32 × Int32 × Int32 × Int32 × Int32 × Int64 × Int64) => ((let r_12 : Int32 := fX0_distance u_8.2.2.1
    if r_12 < 1000 then (
    lpX7_begins_24 fN P_count fPT fPF L_count L_fault fLP N24 (i + 1) u_8.2.2.1 u_8.2.2.2.1 u_8.2.2.2.2.1 u_8.2.2.2.2.2.1 u_8.2.2.2.2.2.2.1 u_8.2.2.2.2.2.2.2.1 u_8.2.2.2.2.2.2.2.2.1 u_8.2.2.2.2.2.2.2.2.2.1 u_8.2.2.2.2.2.2.2.2.2.2.1 u_8.2.2.2.2.2.2.2.2.2.2.2.1 u_8.2.2.2.2.2.2.2.2.2.2.2.2.1 u_8.2.2.2.2.2.2.2.2.2.2.2.2.2 u_8.1 u_8.2.1)
    else (
    (i, u_8.1, u_8.2.1, u_8.2.2.1, u_8.2.2.2.1, u_8.2.2.2.2.1, u_8.2.2.2.2.2.1, u_8.2.2.2.2.2.2.1, u_8.2.2.2.2.2.2.2.1, u_8.2.2.2.2.2.2.2.2.1, u_8.2.2.2.2.2.2.2.2.2.1, u_8.2.2.2.2.2.2.2.2.2.2.1, u_8.2.2.2.2.2.2.2.2.2.2.2.1, u_8.2.2.2.2.2.2.2.2.2.2.2.2.1, u_8.2.2.2.2.2.2.2.2.2.2.2.2.2))) : Int32 × Int32 × (Nat → Int64) × Int64 × Int64 × Int32 × Int32 × Int32 × Int32 × Int32 × Int32 × Int32 × Int32 × Int64 × Int64)) eu_8.symm).trans ((congrArg (fun (r_12 : Int32) => ((if r_12 < 1000 then (
    lpX7_begins_24 fN P_count fPT fPF L_count L_fault fLP N24 (i + 1) u_8.2.2.1 u_8.2.2.2.1 u_8.2.2.2.2.1 u_8.2.2.2.2.2.1 u_8.2.2.2.2.2.2.1 u_8.2.2.2.2.2.2.2.1 u_8.2.2.2.2.2.2.2.2.1 u_8.2.2.2.2.2.2.2.2.2.1 u_8.2.2.2.2.2.2.2.2.2.2.1 u_8.2.2.2.2.2.2.2.2.2.2.2.1 u_8.2.2.2.2.2.2.2.2.2.2.2.2.1 u_8.2.2.2.2.2.2.2.2.2.2.2.2.2 u_8.1 u_8.2.1)
    else (
    (i, u_8.1, u_8.2.1, u_8.2.2.1, u_8.2.2.2.1, u_8.2.2.2.2.1, u_8.2.2.2.2.2.1, u_8.2.2.2.2.2.2.1, u_8.2.2.2.2.2.2.2.1, u_8.2.2.2.2.2.2.2.2.1, u_8.2.2.2.2.2.2.2.2.2.1, u_8.2.2.2.2.2.2.2.2.2.2.1, u_8.2.2.2.2.2.2.2.2.2.2.2.1, u_8.2.2.2.2.2.2.2.2.2.2.2.2.1, u_8.2.2.2.2.2.2.2.2.2.2.2.2.2))) : Int32 × Int32 × (Nat → Int64) × Int64 × Int64 × Int32 × Int32 × Int32 × Int32 × Int32 × Int32 × Int32 × Int32 × Int64 × Int64)) er_12.symm).trans ((if_neg c_14))))))))).symm
        have hf1 := congrArg Prod.fst hf
        have hf2 := congrArg Prod.snd hf
        exact kk_ei hx hb hr hlocks hK hq [1, 2, 3, 4, 5, 6, 7, 8, 9, 0, 10] (u_8.1, u_8.2.1, u_8.2.2.1, u_8.2.2.2.1, u_8.2.2.2.2.1, u_8.2.2.2.2.2.1, u_8.2.2.2.2.2.2.1, u_8.2.2.2.2.2.2.2.1, u_8.2.2.2.2.2.2.2.2.1, u_8.2.2.2.2.2.2.2.2.2.1, u_8.2.2.2.2.2.2.2.2.2.2.1, u_8.2.2.2.2.2.2.2.2.2.2.2.1, u_8.2.2.2.2.2.2.2.2.2.2.2.2.1, u_8.2.2.2.2.2.2.2.2.2.2.2.2.2) rfl (by decide) dX7_begins_54 ⟨hf1, hf2⟩
theorem hd_X7_lastTurnByRule : yX7_lastTurnByRule.cls = RX7 ∧ yX7_lastTurnByRule.cls ≠ "java/lang/invoke/MethodHandle" ∧ yX7_lastTurnByRule.cls ≠ "java/lang/invoke/VarHandle" ∧ (parseMethodDescriptor yX7_lastTurnByRule.desc).map (fun d => d.parameters.length) = some 3 := by decide +kernel
def lpX7_pumps_2 (p1 : Int32) (p2 : Int32) (fN : Nat → Int32) (P_count : Int32) (fPT : Nat → Int32) (fPF : Nat → Int32) (C_place : Int64) (C_speed : Int64) (C_posture : Int32) (C_since : Int32) (C_height : Int32) (C_ticks : Int32) (C_way : Int32) (C_strength : Int32) (C_drops : Int32) (C_greatestDrop : Int32) (C_otherPlace : Int64) (C_otherSpeed : Int64) : Nat → Int32 → Int64 → Int64 → Int32 → Int32 → Int32 → Int32 → Int32 → Int32 → Int32 → Int32 → Int64 → Int64 → Int32 × Int64 × Int64 × Int32 × Int32 × Int32 × Int32 × Int32 × Int32 × Int32 × Int32 × Int64 × Int64
  | 0, _, _, _, _, _, _, _, _, _, _, _, _, _ => (0, 0, 0, 0, 0, 0, 0, 0, 0, 0, 0, 0, 0)
  | N + 1, i, pl, sp, po, si, he, ti, wa, sg, dr, gd, op, os =>
    if 3 ≤ i then (
    (1, pl, sp, po, si, he, ti, wa, sg, dr, gd, op, os))
    else (
    let r_3 : Int32 := (fX7_lastTurnByRule p1 (sa_RULE_PLACES i.toNatClampNeg) p2 fN P_count fPT fPF C_place C_speed C_posture C_since C_height C_ticks C_way C_strength C_drops C_greatestDrop C_otherPlace C_otherSpeed).1
    let u_2 : Int64 × Int64 × Int32 × Int32 × Int32 × Int32 × Int32 × Int32 × Int32 × Int32 × Int64 × Int64 := (fX7_lastTurnByRule p1 (sa_RULE_PLACES i.toNatClampNeg) p2 fN P_count fPT fPF C_place C_speed C_posture C_since C_height C_ticks C_way C_strength C_drops C_greatestDrop C_otherPlace C_otherSpeed).2
    if sa_RULE_PLACES i.toNatClampNeg < r_3 then (
    lpX7_pumps_2 p1 p2 fN P_count fPT fPF C_place C_speed C_posture C_since C_height C_ticks C_way C_strength C_drops C_greatestDrop C_otherPlace C_otherSpeed N (i + 1) u_2.1 u_2.2.1 u_2.2.2.1 u_2.2.2.2.1 u_2.2.2.2.2.1 u_2.2.2.2.2.2.1 u_2.2.2.2.2.2.2.1 u_2.2.2.2.2.2.2.2.1 u_2.2.2.2.2.2.2.2.2.1 u_2.2.2.2.2.2.2.2.2.2.1 u_2.2.2.2.2.2.2.2.2.2.2.1 u_2.2.2.2.2.2.2.2.2.2.2.2)
    else (
    (0, u_2.1, u_2.2.1, u_2.2.2.1, u_2.2.2.2.1, u_2.2.2.2.2.1, u_2.2.2.2.2.2.1, u_2.2.2.2.2.2.2.1, u_2.2.2.2.2.2.2.2.1, u_2.2.2.2.2.2.2.2.2.1, u_2.2.2.2.2.2.2.2.2.2.1, u_2.2.2.2.2.2.2.2.2.2.2.1, u_2.2.2.2.2.2.2.2.2.2.2.2)))

def fX7_pumps (p1 : Int32) (p2 : Int32) (fN : Nat → Int32) (P_count : Int32) (fPT : Nat → Int32) (fPF : Nat → Int32) (C_place : Int64) (C_speed : Int64) (C_posture : Int32) (C_since : Int32) (C_height : Int32) (C_ticks : Int32) (C_way : Int32) (C_strength : Int32) (C_drops : Int32) (C_greatestDrop : Int32) (C_otherPlace : Int64) (C_otherSpeed : Int64) (D_place : Int64) (D_speed : Int64) (D_posture : Int32) (D_since : Int32) (D_height : Int32) (D_ticks : Int32) (D_way : Int32) (D_strength : Int32) (D_drops : Int32) (D_greatestDrop : Int32) (D_otherPlace : Int64) (D_otherSpeed : Int64) : Int32 × Int64 × Int64 × Int32 × Int32 × Int32 × Int32 × Int32 × Int32 × Int32 × Int32 × Int64 × Int64 :=
  lpX7_pumps_2 p1 p2 fN P_count fPT fPF C_place C_speed C_posture C_since C_height C_ticks C_way C_strength C_drops C_greatestDrop C_otherPlace C_otherSpeed (4) 0 D_place D_speed D_posture D_since D_height D_ticks D_way D_strength D_drops D_greatestDrop D_otherPlace D_otherSpeed

set_option maxHeartbeats 4000000 in
set_option maxRecDepth 100000 in
theorem c_X7_pumps (l : Launch) (G : va_G) (ts : Nat → Nat) (aY aS aN aP aPT aPF aC aD rY_images rY_kept rY_law rY_reader rY_stages rY_row rY_bestRow rS_text rS_turns : Nat) (cN cPT cPF : ClassId) (p1 : Int32) (p2 : Int32) (Y_bestPeak : Int32) (Y_bads : Int32) (Y_noes : Int32) (Y_fulls : Int32) (fN : Nat → Int32) (P_count : Int32) (fPT : Nat → Int32) (fPF : Nat → Int32) (C_place : Int64) (C_speed : Int64) (C_posture : Int32) (C_since : Int32) (C_height : Int32) (C_ticks : Int32) (C_way : Int32) (C_strength : Int32) (C_drops : Int32) (C_greatestDrop : Int32) (C_otherPlace : Int64) (C_otherSpeed : Int64) (D_place : Int64) (D_speed : Int64) (D_posture : Int32) (D_since : Int32) (D_height : Int32) (D_ticks : Int32) (D_way : Int32) (D_strength : Int32) (D_drops : Int32) (D_greatestDrop : Int32) (D_otherPlace : Int64) (D_otherSpeed : Int64) (hn : p2.toInt ≤ 500) : kDi l yX7_pumps (Cond.code yX7_pumps cX7_pumps 4 (some .boolean) :: wsL_law) ({ frames := 6, cells := 0, slots := 0, locals := 155 }) G [(cN, .int), (cPT, .int), (cPF, .int)] ts [.ref aY, .int p1, .int p2] [(aY, .inr (7, [.ref aS, .ref rY_images, .ref rY_kept, .ref rY_law, .ref rY_reader, .ref aD, .ref rY_stages, .ref rY_row, .ref rY_bestRow, .int Y_bestPeak, .int Y_bads, .int Y_noes, .int Y_fulls])), (aS, .inr (4, [.ref aN, .ref rS_text, .ref aP, .ref aC, .ref rS_turns])), (aN, .inl (cN, 8, .inl fN)), (aP, .inr (3, [.ref aPT, .ref aPF, .int P_count])), (aPT, .inl (cPT, 8, .inl fPT)), (aPF, .inl (cPF, 8, .inl fPF)), (aC, .inr (0, [.long C_place, .long C_speed, .int C_posture, .int C_since, .int C_height, .int C_ticks, .int C_way, .int C_strength, .int C_drops, .int C_greatestDrop, .long C_otherPlace, .long C_otherSpeed])), (aD, .inr (0, [.long D_place, .long D_speed, .int D_posture, .int D_since, .int D_height, .int D_ticks, .int D_way, .int D_strength, .int D_drops, .int D_greatestDrop, .long D_otherPlace, .long D_otherSpeed]))] (fun (r : Int32) (u : Int64 × Int64 × Int32 × Int32 × Int32 × Int32 × Int32 × Int32 × Int32 × Int32 × Int64 × Int64) => r = (fX7_pumps p1 p2 fN P_count fPT fPF C_place C_speed C_posture C_since C_height C_ticks C_way C_strength C_drops C_greatestDrop C_otherPlace C_otherSpeed D_place D_speed D_posture D_since D_height D_ticks D_way D_strength D_drops D_greatestDrop D_otherPlace D_otherSpeed).1 ∧ u = (fX7_pumps p1 p2 fN P_count fPT fPF C_place C_speed C_posture C_since C_height C_ticks C_way C_strength C_drops C_greatestDrop C_otherPlace C_otherSpeed D_place D_speed D_posture D_since D_height D_ticks D_way D_strength D_drops D_greatestDrop D_otherPlace D_otherSpeed).2 ∧ (r = 0 ∨ r = 1)) (fun (u : Int64 × Int64 × Int32 × Int32 × Int32 × Int32 × Int32 × Int32 × Int32 × Int32 × Int64 × Int64) => [(aY, .inr (7, [.ref aS, .ref rY_images, .ref rY_kept, .ref rY_law, .ref rY_reader, .ref aD, .ref rY_stages, .ref rY_row, .ref rY_bestRow, .int Y_bestPeak, .int Y_bads, .int Y_noes, .int Y_fulls])), (aS, .inr (4, [.ref aN, .ref rS_text, .ref aP, .ref aC, .ref rS_turns])), (aN, .inl (cN, 8, .inl fN)), (aP, .inr (3, [.ref aPT, .ref aPF, .int P_count])), (aPT, .inl (cPT, 8, .inl fPT)), (aPF, .inl (cPF, 8, .inl fPF)), (aC, .inr (0, [.long C_place, .long C_speed, .int C_posture, .int C_since, .int C_height, .int C_ticks, .int C_way, .int C_strength, .int C_drops, .int C_greatestDrop, .long C_otherPlace, .long C_otherSpeed])), (aD, .inr (0, [.long u.1, .long u.2.1, .int u.2.2.1, .int u.2.2.2.1, .int u.2.2.2.2.1, .int u.2.2.2.2.2.1, .int u.2.2.2.2.2.2.1, .int u.2.2.2.2.2.2.2.1, .int u.2.2.2.2.2.2.2.2.1, .int u.2.2.2.2.2.2.2.2.2.1, .long u.2.2.2.2.2.2.2.2.2.2.1, .long u.2.2.2.2.2.2.2.2.2.2.2]))]) := by
  intro sz
  refine Met.ofW (cc := cX7_pumps) (maxL := 4) (ret := (some .boolean)) (by decide) rfl ?_
  intro p e s m args below meth c s₁ B hml hv
  obtain ⟨rfl, hv⟩ := hv
  obtain ⟨hv, hE⟩ := hv
  obtain ⟨rfl, hK, hq, hA⟩ := kk_begin hv
  have hx := B.exec
  have hb := B.bytes
  have hr := B.returns
  have hts := atoms_spec (ws := (Cond.code yX7_pumps cX7_pumps 4 (some .boolean) :: wsL_law)) B.pre
  have hown : s.vm.findClass RX7 = some m.cls := findClass_of_methodNamed B.named
  have hlocks := B.notSynchronized
  have hsb : ∀ w ∈ wsL_law, w ∈ (Cond.code yX7_pumps cX7_pumps 4 (some .boolean) :: wsL_law) := fun _ h => List.mem_cons_of_mem _ h
  generalize va_A [(aY, .inr (7, [.ref aS, .ref rY_images, .ref rY_kept, .ref rY_law, .ref rY_reader, .ref aD, .ref rY_stages, .ref rY_row, .ref rY_bestRow, .int Y_bestPeak, .int Y_bads, .int Y_noes, .int Y_fulls])), (aS, .inr (4, [.ref aN, .ref rS_text, .ref aP, .ref aC, .ref rS_turns])), (aN, .inl (cN, 8, .inl fN)), (aP, .inr (3, [.ref aPT, .ref aPF, .int P_count])), (aPT, .inl (cPT, 8, .inl fPT)), (aPF, .inl (cPF, 8, .inl fPF)), (aC, .inr (0, [.long C_place, .long C_speed, .int C_posture, .int C_since, .int C_height, .int C_ticks, .int C_way, .int C_strength, .int C_drops, .int C_greatestDrop, .long C_otherPlace, .long C_otherSpeed])), (aD, .inr (0, [.long D_place, .long D_speed, .int D_posture, .int D_since, .int D_height, .int D_ticks, .int D_way, .int D_strength, .int D_drops, .int D_greatestDrop, .long D_otherPlace, .long D_otherSpeed]))] s.heap.size = A at hq hA hE ⊢
  have lk0_ := hts _ (hsb _ wd_770)
  have hl := lv_entry ([.ref aY, .int p1, .int p2]) (n := 4) (Nat.le_of_ble_eq_true rfl)
  rw [lg_entry_eq]
  generalize (lg_sl ([.ref aY, .int p1, .int p2]) ++ List.replicate (4 - (lg_sl ([.ref aY, .int p1, .int p2])).length) Slot.unset).toArray = ls at hl ⊢
  have hl : lv_has ls 4 [(0, .ref aY), (1, .int p1), (2, .int p2)] := hl
  refine lv_iconst (v := 0) hx hb dX7_pumps_0 (by decide) ?_
  refine lv_istore_n (lv' := [(3, .int 0), (0, .ref aY), (1, .int p1), (2, .int p2)]) hx hb dX7_pumps_1 rfl hl (by decide) rfl (fun ls hl => ?_)
  refine kk_loop13 (fun N2 (i : Int32) (pl : Int64) (sp : Int64) (po : Int32) (si : Int32) (he : Int32) (ti : Int32) (wa : Int32) (sg : Int32) (dr : Int32) (gd : Int32) (op : Int64) (os : Int64) (H : Heap) (locs : List Loc) (ls : Array Slot) => lpX7_pumps_2 p1 p2 fN P_count fPT fPF C_place C_speed C_posture C_since C_height C_ticks C_way C_strength C_drops C_greatestDrop C_otherPlace C_otherSpeed (4) 0 D_place D_speed D_posture D_since D_height D_ticks D_way D_strength D_drops D_greatestDrop D_otherPlace D_otherSpeed = lpX7_pumps_2 p1 p2 fN P_count fPT fPF C_place C_speed C_posture C_since C_height C_ticks C_way C_strength C_drops C_greatestDrop C_otherPlace C_otherSpeed N2 i pl sp po si he ti wa sg dr gd op os ∧ (0 ≤ i.toInt) ∧ (i.toInt ≤ 3) ∧ (i.toInt + N2 = 4) ∧ lv_has ls 4 [(3, .int i), (0, .ref aY), (1, .int p1), (2, .int p2)] ∧ kAt G A s [(aY, .inr (7, [.ref aS, .ref rY_images, .ref rY_kept, .ref rY_law, .ref rY_reader, .ref aD, .ref rY_stages, .ref rY_row, .ref rY_bestRow, .int Y_bestPeak, .int Y_bads, .int Y_noes, .int Y_fulls])), (aS, .inr (4, [.ref aN, .ref rS_text, .ref aP, .ref aC, .ref rS_turns])), (aN, .inl (cN, 8, .inl fN)), (aP, .inr (3, [.ref aPT, .ref aPF, .int P_count])), (aPT, .inl (cPT, 8, .inl fPT)), (aPF, .inl (cPF, 8, .inl fPF)), (aC, .inr (0, [.long C_place, .long C_speed, .int C_posture, .int C_since, .int C_height, .int C_ticks, .int C_way, .int C_strength, .int C_drops, .int C_greatestDrop, .long C_otherPlace, .long C_otherSpeed])), (aD, .inr (0, [.long pl, .long sp, .int po, .int si, .int he, .int ti, .int wa, .int sg, .int dr, .int gd, .long op, .long os]))] H locs) 2 (fun i pl sp po si he ti wa sg dr gd op os => []) (fun i pl sp po si he ti wa sg dr gd op os H locs ls hv => ?_) (fun N2 i pl sp po si he ti wa sg dr gd op os H locs ls ih2 hv => ?_) (4) 0 D_place D_speed D_posture D_since D_height D_ticks D_way D_strength D_drops D_greatestDrop D_otherPlace D_otherSpeed _ _ _ ⟨rfl, (by decide), (by decide), (by decide), lv_sub hl [0, 1, 2, 3] rfl, hq⟩
  · skip
    obtain ⟨hrel2, i0, i1, hN, hl, hq⟩ := hv
    omega
  · skip
    obtain ⟨hrel2, i0, i1, hN, hl, hq⟩ := hv
    refine lv_iload_n hx hb dX7_pumps_2 rfl (lv_at hl 0 rfl) ?_
    refine va_gets hx hb hE.2.2.2.1.1 hq.2.2 hown lk0_ (fun _ h => h) dX7_pumps_3 ?_
    refine va_tlen (v := 3) hx hb hE.2.2.2.1.2 hq.2.2 rfl dX7_pumps_6 ?_
    refine lv_icmp_ge (tgt := 37) hx hb dX7_pumps_7 (by decide) (fun c_1 => ?_) (fun c_1 => ?_)
    · skip
      refine lv_iconst (v := 1) hx hb dX7_pumps_37 (by decide) ?_
      have hf : ((1, pl, sp, po, si, he, ti, wa, sg, dr, gd, op, os) : Int32 × Int64 × Int64 × Int32 × Int32 × Int32 × Int32 × Int32 × Int32 × Int32 × Int32 × Int64 × Int64) = fX7_pumps p1 p2 fN P_count fPT fPF C_place C_speed C_posture C_since C_height C_ticks C_way C_strength C_drops C_greatestDrop C_otherPlace C_otherSpeed D_place D_speed D_posture D_since D_height D_ticks D_way D_strength D_drops D_greatestDrop D_otherPlace D_otherSpeed := by
        exact (hrel2.trans ((if_pos c_1))).symm
      have hf1 := congrArg Prod.fst hf
      have hf2 := congrArg Prod.snd hf
      have hz : (1 : Int32) = 0 ∨ (1 : Int32) = 1 := Or.inr rfl
      exact kk_ez hx hb hr hlocks hz hK hq [0, 1, 2, 3, 4, 5, 6, 7] (pl, sp, po, si, he, ti, wa, sg, dr, gd, op, os) rfl (by decide) dX7_pumps_38 ⟨hf1, hf2, hz⟩
    · skip
      have hi := kk_nle (k := 3) rfl c_1
      refine lv_aload_n hx hb dX7_pumps_10 rfl (lv_at hl 1 rfl) ?_
      refine lv_iload_n hx hb dX7_pumps_11 rfl (lv_at hl 2 rfl) ?_
      refine va_gets hx hb hE.2.2.2.1.1 hq.2.2 hown lk0_ (fun _ h => h) dX7_pumps_12 ?_
      refine lv_iload_n hx hb dX7_pumps_15 rfl (lv_at hl 0 rfl) ?_
      refine kk_ti hx hb hE.2.2.2.1.2 hq.2.2 i.toNatClampNeg (kk_cl i0) (kk_clt i0 hi) (by decide) dX7_pumps_16 ?_
      refine lv_iload_n hx hb dX7_pumps_17 rfl (lv_at hl 3 rfl) ?_
      refine kk_Vi (As := [.int p1, .int (sa_RULE_PLACES i.toNatClampNeg), .int p2]) (rest := []) (wr := []) ⟨hx, hb, hml, hown, hts⟩ (c_X7_lastTurnByRule l G aY aS aN aP aPT aPF aC aD rY_images rY_kept rY_law rY_reader rY_stages rY_row rY_bestRow rS_text rS_turns cN cPT cPF p1 (sa_RULE_PLACES i.toNatClampNeg) p2 Y_bestPeak Y_bads Y_noes Y_fulls fN P_count fPT fPF C_place C_speed C_posture C_since C_height C_ticks C_way C_strength C_drops C_greatestDrop C_otherPlace C_otherSpeed pl sp po si he ti wa sg dr gd op os (by assumption)) (kk_cwV 3 hts hsb wd_771 wd_772 wd_773 wd_2 wd_774 rfl rfl hd_X7_lastTurnByRule ⟨Nat.le_of_ble_eq_true rfl, Nat.le_of_ble_eq_true rfl⟩) hA hK hq [0, 1, 2, 3, 4, 5, 6, 7] [] [0, 1, 2] rfl rfl rfl (by decide) (by decide) (by decide) 0 7 rfl rfl rfl rfl hl.1 rfl (Nat.le_of_ble_eq_true rfl) dX7_pumps_18 ⟨Nat.zero_le _, Nat.zero_le _⟩ (fun r_3 u_2 H locs h_4 hq => ?_)
      obtain ⟨er_3, eu_2⟩ := h_4
      have hq : kAt G A s [(aY, .inr (7, [.ref aS, .ref rY_images, .ref rY_kept, .ref rY_law, .ref rY_reader, .ref aD, .ref rY_stages, .ref rY_row, .ref rY_bestRow, .int Y_bestPeak, .int Y_bads, .int Y_noes, .int Y_fulls])), (aS, .inr (4, [.ref aN, .ref rS_text, .ref aP, .ref aC, .ref rS_turns])), (aN, .inl (cN, 8, .inl fN)), (aP, .inr (3, [.ref aPT, .ref aPF, .int P_count])), (aPT, .inl (cPT, 8, .inl fPT)), (aPF, .inl (cPF, 8, .inl fPF)), (aC, .inr (0, [.long C_place, .long C_speed, .int C_posture, .int C_since, .int C_height, .int C_ticks, .int C_way, .int C_strength, .int C_drops, .int C_greatestDrop, .long C_otherPlace, .long C_otherSpeed])), (aD, .inr (0, [.long u_2.1, .long u_2.2.1, .int u_2.2.2.1, .int u_2.2.2.2.1, .int u_2.2.2.2.2.1, .int u_2.2.2.2.2.2.1, .int u_2.2.2.2.2.2.2.1, .int u_2.2.2.2.2.2.2.2.1, .int u_2.2.2.2.2.2.2.2.2.1, .int u_2.2.2.2.2.2.2.2.2.2.1, .long u_2.2.2.2.2.2.2.2.2.2.2.1, .long u_2.2.2.2.2.2.2.2.2.2.2.2]))] H locs := hq
      refine va_gets hx hb hE.2.2.2.1.1 hq.2.2 hown lk0_ (fun _ h => h) dX7_pumps_21 ?_
      refine lv_iload_n hx hb dX7_pumps_24 rfl (lv_at hl 0 rfl) ?_
      refine kk_ti hx hb hE.2.2.2.1.2 hq.2.2 i.toNatClampNeg (kk_cl i0) (kk_clt i0 hi) (by decide) dX7_pumps_25 ?_
      refine lv_icmp_gt (tgt := 31) hx hb dX7_pumps_26 (by decide) (fun c_5 => ?_) (fun c_5 => ?_)
      · skip
        refine lv_iinc (v := i + 1) (lv' := [(3, .int (i + 1)), (0, .ref aY), (1, .int p1), (2, .int p2)]) hx hb dX7_pumps_31 hl (k := 0) rfl rfl (by decide) rfl (fun ls hl => ?_)
        refine lv_goto (tgt := 2) hx hb dX7_pumps_34 (by decide) ?_
        exact ih2 (i + 1) u_2.1 u_2.2.1 u_2.2.2.1 u_2.2.2.2.1 u_2.2.2.2.2.1 u_2.2.2.2.2.2.1 u_2.2.2.2.2.2.2.1 u_2.2.2.2.2.2.2.2.1 u_2.2.2.2.2.2.2.2.2.1 u_2.2.2.2.2.2.2.2.2.2.1 u_2.2.2.2.2.2.2.2.2.2.2.1 u_2.2.2.2.2.2.2.2.2.2.2.2 _ _ _ ⟨(hrel2.trans ((if_neg c_1).trans ((congrArg (fun (r_3 : Int32) => ((let u_2 : Int64 × Int64 × Int32 × Int32 × Int32 × Int32 × Int32 × Int32 × Int32 × Int32 × Int64 × Int64 := (fX7_lastTurnByRule p1 (sa_RULE_PLACES i.toNatClampNeg) p2 fN P_count fPT fPF C_place C_speed C_posture C_since C_height C_ticks C_way C_strength C_drops C_greatestDrop C_otherPlace C_otherSpeed).2
    if sa_RULE_PLACES i.toNatClampNeg < r_3 then (
    lpX7_pumps_2 p1 p2 fN P_count fPT fPF C_place C_speed C_posture C_since C_height C_ticks C_way C_strength C_drops C_greatestDrop C_otherPlace C_otherSpeed N2 (i + 1) u_2.1 u_2.2.1 u_2.2.2.1 u_2.2.2.2.1 u_2.2.2.2.2.1 u_2.2.2.2.2.2.1 u_2.2.2.2.2.2.2.1 u_2.2.2.2.2.2.2.2.1 u_2.2.2.2.2.2.2.2.2.1 u_2.2.2.2.2.2.2.2.2.2.1 u_2.2.2.2.2.2.2.2.2.2.2.1 u_2.2.2.2.2.2.2.2.2.2.2.2)
    else (
    (0, u_2.1, u_2.2.1, u_2.2.2.1, u_2.2.2.2.1, u_2.2.2.2.2.1, u_2.2.2.2.2.2.1, u_2.2.2.2.2.2.2.1, u_2.2.2.2.2.2.2.2.1, u_2.2.2.2.2.2.2.2.2.1, u_2.2.2.2.2.2.2.2.2.2.1, u_2.2.2.2.2.2.2.2.2.2.2.1, u_2.2.2.2.2.2.2.2.2.2.2.2))) : Int32 × Int64 × Int64 × Int32 × Int32 × Int32 × Int32 × Int32 × Int32 × Int32 × Int32 × Int64 × Int64)) er_3.symm).trans ((congrArg (fun (u_2 : Int64 × Int64 × Int32 × Int32 × Int32 × Int32 × Int32 × Int32 × Int32 × Int32 × Int64 × Int64) => ((if sa_RULE_PLACES i.toNatClampNeg < r_3 then (
    lpX7_pumps_2 p1 p2 fN P_count fPT fPF C_place C_speed C_posture C_since C_height C_ticks C_way C_strength C_drops C_greatestDrop C_otherPlace C_otherSpeed N2 (i + 1) u_2.1 u_2.2.1 u_2.2.2.1 u_2.2.2.2.1 u_2.2.2.2.2.1 u_2.2.2.2.2.2.1 u_2.2.2.2.2.2.2.1 u_2.2.2.2.2.2.2.2.1 u_2.2.2.2.2.2.2.2.2.1 u_2.2.2.2.2.2.2.2.2.2.1 u_2.2.2.2.2.2.2.2.2.2.2.1 u_2.2.2.2.2.2.2.2.2.2.2.2)
    else (
    (0, u_2.1, u_2.2.1, u_2.2.2.1, u_2.2.2.2.1, u_2.2.2.2.2.1, u_2.2.2.2.2.2.1, u_2.2.2.2.2.2.2.1, u_2.2.2.2.2.2.2.2.1, u_2.2.2.2.2.2.2.2.2.1, u_2.2.2.2.2.2.2.2.2.2.1, u_2.2.2.2.2.2.2.2.2.2.2.1, u_2.2.2.2.2.2.2.2.2.2.2.2))) : Int32 × Int64 × Int64 × Int32 × Int32 × Int32 × Int32 × Int32 × Int32 × Int32 × Int32 × Int64 × Int64)) eu_2.symm).trans ((if_pos c_5)))))), (by have := kk_inc (x := i) (by omega); omega), (by have := kk_inc (x := i) (by omega); omega), (by have := kk_inc (x := i) (by omega); omega), lv_sub hl [0, 1, 2, 3] rfl, hq⟩
      · skip
        refine lv_iconst (v := 0) hx hb dX7_pumps_29 (by decide) ?_
        have hf : ((0, u_2.1, u_2.2.1, u_2.2.2.1, u_2.2.2.2.1, u_2.2.2.2.2.1, u_2.2.2.2.2.2.1, u_2.2.2.2.2.2.2.1, u_2.2.2.2.2.2.2.2.1, u_2.2.2.2.2.2.2.2.2.1, u_2.2.2.2.2.2.2.2.2.2.1, u_2.2.2.2.2.2.2.2.2.2.2.1, u_2.2.2.2.2.2.2.2.2.2.2.2) : Int32 × Int64 × Int64 × Int32 × Int32 × Int32 × Int32 × Int32 × Int32 × Int32 × Int32 × Int64 × Int64) = fX7_pumps p1 p2 fN P_count fPT fPF C_place C_speed C_posture C_since C_height C_ticks C_way C_strength C_drops C_greatestDrop C_otherPlace C_otherSpeed D_place D_speed D_posture D_since D_height D_ticks D_way D_strength D_drops D_greatestDrop D_otherPlace D_otherSpeed := by
          exact (hrel2.trans ((if_neg c_1).trans ((congrArg (fun (r_3 : Int32) => ((let u_2 : Int64 × Int64 × Int32 × Int32 × Int32 × Int32 × Int32 × Int32 × Int32 × Int32 × Int64 × Int64 := (fX7_lastTurnByRule p1 (sa_RULE_PLACES i.toNatClampNeg) p2 fN P_count fPT fPF C_place C_speed C_posture C_since C_height C_ticks C_way C_strength C_drops C_greatestDrop C_otherPlace C_otherSpeed).2
    if sa_RULE_PLACES i.toNatClampNeg < r_3 then (
    lpX7_pumps_2 p1 p2 fN P_count fPT fPF C_place C_speed C_posture C_since C_height C_ticks C_way C_strength C_drops C_greatestDrop C_otherPlace C_otherSpeed N2 (i + 1) u_2.1 u_2.2.1 u_2.2.2.1 u_2.2.2.2.1 u_2.2.2.2.2.1 u_2.2.2.2.2.2.1 u_2.2.2.2.2.2.2.1 u_2.2.2.2.2.2.2.2.1 u_2.2.2.2.2.2.2.2.2.1 u_2.2.2.2.2.2.2.2.2.2.1 u_2.2.2.2.2.2.2.2.2.2.2.1 u_2.2.2.2.2.2.2.2.2.2.2.2)
    else (
    (0, u_2.1, u_2.2.1, u_2.2.2.1, u_2.2.2.2.1, u_2.2.2.2.2.1, u_2.2.2.2.2.2.1, u_2.2.2.2.2.2.2.1, u_2.2.2.2.2.2.2.2.1, u_2.2.2.2.2.2.2.2.2.1, u_2.2.2.2.2.2.2.2.2.2.1, u_2.2.2.2.2.2.2.2.2.2.2.1, u_2.2.2.2.2.2.2.2.2.2.2.2))) : Int32 × Int64 × Int64 × Int32 × Int32 × Int32 × Int32 × Int32 × Int32 × Int32 × Int32 × Int64 × Int64)) er_3.symm).trans ((congrArg (fun (u_2 : Int64 × Int64 × Int32 × Int32 × Int32 × Int32 × Int32 × Int32 × Int32 × Int32 × Int64 × Int64) => ((if sa_RULE_PLACES i.toNatClampNeg < r_3 then (
    lpX7_pumps_2 p1 p2 fN P_count fPT fPF C_place C_speed C_posture C_since C_height C_ticks C_way C_strength C_drops C_greatestDrop C_otherPlace C_otherSpeed N2 (i + 1) u_2.1 u_2.2.1 u_2.2.2.1 u_2.2.2.2.1 u_2.2.2.2.2.1 u_2.2.2.2.2.2.1 u_2.2.2.2.2.2.2.1 u_2.2.2.2.2.2.2.2.1 u_2.2.2.2.2.2.2.2.2.1 u_2.2.2.2.2.2.2.2.2.2.1 u_2.2.2.2.2.2.2.2.2.2.2.1 u_2.2.2.2.2.2.2.2.2.2.2.2)
    else (
    (0, u_2.1, u_2.2.1, u_2.2.2.1, u_2.2.2.2.1, u_2.2.2.2.2.1, u_2.2.2.2.2.2.1, u_2.2.2.2.2.2.2.1, u_2.2.2.2.2.2.2.2.1, u_2.2.2.2.2.2.2.2.2.1, u_2.2.2.2.2.2.2.2.2.2.1, u_2.2.2.2.2.2.2.2.2.2.2.1, u_2.2.2.2.2.2.2.2.2.2.2.2))) : Int32 × Int64 × Int64 × Int32 × Int32 × Int32 × Int32 × Int32 × Int32 × Int32 × Int32 × Int64 × Int64)) eu_2.symm).trans ((if_neg c_5)))))).symm
        have hf1 := congrArg Prod.fst hf
        have hf2 := congrArg Prod.snd hf
        have hz : (0 : Int32) = 0 ∨ (0 : Int32) = 1 := Or.inl rfl
        exact kk_ez hx hb hr hlocks hz hK hq [0, 1, 2, 3, 4, 5, 6, 7] (u_2.1, u_2.2.1, u_2.2.2.1, u_2.2.2.2.1, u_2.2.2.2.2.1, u_2.2.2.2.2.2.1, u_2.2.2.2.2.2.2.1, u_2.2.2.2.2.2.2.2.1, u_2.2.2.2.2.2.2.2.2.1, u_2.2.2.2.2.2.2.2.2.2.1, u_2.2.2.2.2.2.2.2.2.2.2.1, u_2.2.2.2.2.2.2.2.2.2.2.2) rfl (by decide) dX7_pumps_30 ⟨hf1, hf2, hz⟩
theorem hd_X7_pumps : yX7_pumps.cls = RX7 ∧ yX7_pumps.cls ≠ "java/lang/invoke/MethodHandle" ∧ yX7_pumps.cls ≠ "java/lang/invoke/VarHandle" ∧ (parseMethodDescriptor yX7_pumps.desc).map (fun d => d.parameters.length) = some 2 := by decide +kernel
def lpX7_simplest_20 (p1 : Int32) (Y_bads : Int32) (fN : Nat → Int32) (P_count : Int32) (fPT : Nat → Int32) (fPF : Nat → Int32) (C_place : Int64) (C_speed : Int64) (C_posture : Int32) (C_since : Int32) (C_height : Int32) (C_ticks : Int32) (C_way : Int32) (C_strength : Int32) (C_drops : Int32) (C_greatestDrop : Int32) (C_otherPlace : Int64) (C_otherSpeed : Int64) : Nat → Int32 → Int64 → Int64 → Int32 → Int32 → Int32 → Int32 → Int32 → Int32 → Int32 → Int32 → Int64 → Int64 → Int32 × Int32 × Int64 × Int64 × Int32 × Int32 × Int32 × Int32 × Int32 × Int32 × Int32 × Int32 × Int64 × Int64
  | 0, _, _, _, _, _, _, _, _, _, _, _, _, _ => (0, 0, 0, 0, 0, 0, 0, 0, 0, 0, 0, 0, 0, 0)
  | N + 1, i, pl, sp, po, si, he, ti, wa, sg, dr, gd, op, os =>
    if 20 < i then (
    ((-1), Y_bads, pl, sp, po, si, he, ti, wa, sg, dr, gd, op, os))
    else (
    let r_7 : Int32 := (fX7_pumps i p1 fN P_count fPT fPF C_place C_speed C_posture C_since C_height C_ticks C_way C_strength C_drops C_greatestDrop C_otherPlace C_otherSpeed pl sp po si he ti wa sg dr gd op os).1
    let u_6 : Int64 × Int64 × Int32 × Int32 × Int32 × Int32 × Int32 × Int32 × Int32 × Int32 × Int64 × Int64 := (fX7_pumps i p1 fN P_count fPT fPF C_place C_speed C_posture C_since C_height C_ticks C_way C_strength C_drops C_greatestDrop C_otherPlace C_otherSpeed pl sp po si he ti wa sg dr gd op os).2
    if r_7 = 0 then (
    lpX7_simplest_20 p1 Y_bads fN P_count fPT fPF C_place C_speed C_posture C_since C_height C_ticks C_way C_strength C_drops C_greatestDrop C_otherPlace C_otherSpeed N (i + 1) u_6.1 u_6.2.1 u_6.2.2.1 u_6.2.2.2.1 u_6.2.2.2.2.1 u_6.2.2.2.2.2.1 u_6.2.2.2.2.2.2.1 u_6.2.2.2.2.2.2.2.1 u_6.2.2.2.2.2.2.2.2.1 u_6.2.2.2.2.2.2.2.2.2.1 u_6.2.2.2.2.2.2.2.2.2.2.1 u_6.2.2.2.2.2.2.2.2.2.2.2)
    else (
    (i, Y_bads, u_6.1, u_6.2.1, u_6.2.2.1, u_6.2.2.2.1, u_6.2.2.2.2.1, u_6.2.2.2.2.2.1, u_6.2.2.2.2.2.2.1, u_6.2.2.2.2.2.2.2.1, u_6.2.2.2.2.2.2.2.2.1, u_6.2.2.2.2.2.2.2.2.2.1, u_6.2.2.2.2.2.2.2.2.2.2.1, u_6.2.2.2.2.2.2.2.2.2.2.2)))

def fX7_simplest (p1 : Int32) (Y_bads : Int32) (fN : Nat → Int32) (P_count : Int32) (fPT : Nat → Int32) (fPF : Nat → Int32) (C_place : Int64) (C_speed : Int64) (C_posture : Int32) (C_since : Int32) (C_height : Int32) (C_ticks : Int32) (C_way : Int32) (C_strength : Int32) (C_drops : Int32) (C_greatestDrop : Int32) (C_otherPlace : Int64) (C_otherSpeed : Int64) (D_place : Int64) (D_speed : Int64) (D_posture : Int32) (D_since : Int32) (D_height : Int32) (D_ticks : Int32) (D_way : Int32) (D_strength : Int32) (D_drops : Int32) (D_greatestDrop : Int32) (D_otherPlace : Int64) (D_otherSpeed : Int64) : Int32 × Int32 × Int64 × Int64 × Int32 × Int32 × Int32 × Int32 × Int32 × Int32 × Int32 × Int32 × Int64 × Int64 :=
  let r_2 : Int32 := fX7_within p1 1 300
  if r_2 = 0 then (
    let r_11 : Int32 := (fX7_refusedAsBad (-2) Y_bads).1
    let u_10 : Int32 := (fX7_refusedAsBad (-2) Y_bads).2
    (r_11, u_10, D_place, D_speed, D_posture, D_since, D_height, D_ticks, D_way, D_strength, D_drops, D_greatestDrop, D_otherPlace, D_otherSpeed))
  else (
    lpX7_simplest_20 p1 Y_bads fN P_count fPT fPF C_place C_speed C_posture C_since C_height C_ticks C_way C_strength C_drops C_greatestDrop C_otherPlace C_otherSpeed (22) 0 D_place D_speed D_posture D_since D_height D_ticks D_way D_strength D_drops D_greatestDrop D_otherPlace D_otherSpeed)

set_option maxHeartbeats 4000000 in
set_option maxRecDepth 100000 in
theorem c_X7_simplest (l : Launch) (G : va_G) (ts : Nat → Nat) (aY aS aN aP aPT aPF aC aD rY_images rY_kept rY_law rY_reader rY_stages rY_row rY_bestRow rS_text rS_turns : Nat) (cN cPT cPF : ClassId) (p1 : Int32) (Y_bestPeak : Int32) (Y_bads : Int32) (Y_noes : Int32) (Y_fulls : Int32) (fN : Nat → Int32) (P_count : Int32) (fPT : Nat → Int32) (fPF : Nat → Int32) (C_place : Int64) (C_speed : Int64) (C_posture : Int32) (C_since : Int32) (C_height : Int32) (C_ticks : Int32) (C_way : Int32) (C_strength : Int32) (C_drops : Int32) (C_greatestDrop : Int32) (C_otherPlace : Int64) (C_otherSpeed : Int64) (D_place : Int64) (D_speed : Int64) (D_posture : Int32) (D_since : Int32) (D_height : Int32) (D_ticks : Int32) (D_way : Int32) (D_strength : Int32) (D_drops : Int32) (D_greatestDrop : Int32) (D_otherPlace : Int64) (D_otherSpeed : Int64) : kDi l yX7_simplest (Cond.code yX7_simplest cX7_simplest 3 (some .int) :: wsL_law) ({ frames := 7, cells := 0, slots := 0, locals := 178 }) G [(cN, .int), (cPT, .int), (cPF, .int)] ts [.ref aY, .int p1] [(aY, .inr (7, [.ref aS, .ref rY_images, .ref rY_kept, .ref rY_law, .ref rY_reader, .ref aD, .ref rY_stages, .ref rY_row, .ref rY_bestRow, .int Y_bestPeak, .int Y_bads, .int Y_noes, .int Y_fulls])), (aS, .inr (4, [.ref aN, .ref rS_text, .ref aP, .ref aC, .ref rS_turns])), (aN, .inl (cN, 8, .inl fN)), (aP, .inr (3, [.ref aPT, .ref aPF, .int P_count])), (aPT, .inl (cPT, 8, .inl fPT)), (aPF, .inl (cPF, 8, .inl fPF)), (aC, .inr (0, [.long C_place, .long C_speed, .int C_posture, .int C_since, .int C_height, .int C_ticks, .int C_way, .int C_strength, .int C_drops, .int C_greatestDrop, .long C_otherPlace, .long C_otherSpeed])), (aD, .inr (0, [.long D_place, .long D_speed, .int D_posture, .int D_since, .int D_height, .int D_ticks, .int D_way, .int D_strength, .int D_drops, .int D_greatestDrop, .long D_otherPlace, .long D_otherSpeed]))] (fun (r : Int32) (u : Int32 × Int64 × Int64 × Int32 × Int32 × Int32 × Int32 × Int32 × Int32 × Int32 × Int32 × Int64 × Int64) => r = (fX7_simplest p1 Y_bads fN P_count fPT fPF C_place C_speed C_posture C_since C_height C_ticks C_way C_strength C_drops C_greatestDrop C_otherPlace C_otherSpeed D_place D_speed D_posture D_since D_height D_ticks D_way D_strength D_drops D_greatestDrop D_otherPlace D_otherSpeed).1 ∧ u = (fX7_simplest p1 Y_bads fN P_count fPT fPF C_place C_speed C_posture C_since C_height C_ticks C_way C_strength C_drops C_greatestDrop C_otherPlace C_otherSpeed D_place D_speed D_posture D_since D_height D_ticks D_way D_strength D_drops D_greatestDrop D_otherPlace D_otherSpeed).2) (fun (u : Int32 × Int64 × Int64 × Int32 × Int32 × Int32 × Int32 × Int32 × Int32 × Int32 × Int32 × Int64 × Int64) => [(aY, .inr (7, [.ref aS, .ref rY_images, .ref rY_kept, .ref rY_law, .ref rY_reader, .ref aD, .ref rY_stages, .ref rY_row, .ref rY_bestRow, .int Y_bestPeak, .int u.1, .int Y_noes, .int Y_fulls])), (aS, .inr (4, [.ref aN, .ref rS_text, .ref aP, .ref aC, .ref rS_turns])), (aN, .inl (cN, 8, .inl fN)), (aP, .inr (3, [.ref aPT, .ref aPF, .int P_count])), (aPT, .inl (cPT, 8, .inl fPT)), (aPF, .inl (cPF, 8, .inl fPF)), (aC, .inr (0, [.long C_place, .long C_speed, .int C_posture, .int C_since, .int C_height, .int C_ticks, .int C_way, .int C_strength, .int C_drops, .int C_greatestDrop, .long C_otherPlace, .long C_otherSpeed])), (aD, .inr (0, [.long u.2.1, .long u.2.2.1, .int u.2.2.2.1, .int u.2.2.2.2.1, .int u.2.2.2.2.2.1, .int u.2.2.2.2.2.2.1, .int u.2.2.2.2.2.2.2.1, .int u.2.2.2.2.2.2.2.2.1, .int u.2.2.2.2.2.2.2.2.2.1, .int u.2.2.2.2.2.2.2.2.2.2.1, .long u.2.2.2.2.2.2.2.2.2.2.2.1, .long u.2.2.2.2.2.2.2.2.2.2.2.2]))]) := by
  intro sz
  refine Met.ofW (cc := cX7_simplest) (maxL := 3) (ret := (some .int)) (by decide) rfl ?_
  intro p e s m args below meth c s₁ B hml hv
  obtain ⟨rfl, hv⟩ := hv
  obtain ⟨hv, hE⟩ := hv
  obtain ⟨rfl, hK, hq, hA⟩ := kk_begin hv
  have hx := B.exec
  have hb := B.bytes
  have hr := B.returns
  have hts := atoms_spec (ws := (Cond.code yX7_simplest cX7_simplest 3 (some .int) :: wsL_law)) B.pre
  have hown : s.vm.findClass RX7 = some m.cls := findClass_of_methodNamed B.named
  have hlocks := B.notSynchronized
  have hsb : ∀ w ∈ wsL_law, w ∈ (Cond.code yX7_simplest cX7_simplest 3 (some .int) :: wsL_law) := fun _ h => List.mem_cons_of_mem _ h
  generalize va_A [(aY, .inr (7, [.ref aS, .ref rY_images, .ref rY_kept, .ref rY_law, .ref rY_reader, .ref aD, .ref rY_stages, .ref rY_row, .ref rY_bestRow, .int Y_bestPeak, .int Y_bads, .int Y_noes, .int Y_fulls])), (aS, .inr (4, [.ref aN, .ref rS_text, .ref aP, .ref aC, .ref rS_turns])), (aN, .inl (cN, 8, .inl fN)), (aP, .inr (3, [.ref aPT, .ref aPF, .int P_count])), (aPT, .inl (cPT, 8, .inl fPT)), (aPF, .inl (cPF, 8, .inl fPF)), (aC, .inr (0, [.long C_place, .long C_speed, .int C_posture, .int C_since, .int C_height, .int C_ticks, .int C_way, .int C_strength, .int C_drops, .int C_greatestDrop, .long C_otherPlace, .long C_otherSpeed])), (aD, .inr (0, [.long D_place, .long D_speed, .int D_posture, .int D_since, .int D_height, .int D_ticks, .int D_way, .int D_strength, .int D_drops, .int D_greatestDrop, .long D_otherPlace, .long D_otherSpeed]))] s.heap.size = A at hq hA hE ⊢
  have hl := lv_entry ([.ref aY, .int p1]) (n := 3) (Nat.le_of_ble_eq_true rfl)
  rw [lg_entry_eq]
  generalize (lg_sl ([.ref aY, .int p1]) ++ List.replicate (3 - (lg_sl ([.ref aY, .int p1])).length) Slot.unset).toArray = ls at hl ⊢
  have hl : lv_has ls 3 [(0, .ref aY), (1, .int p1)] := hl
  refine lv_iload_n hx hb dX7_simplest_0 rfl (lv_at hl 1 rfl) ?_
  refine lv_iconst (v := 1) hx hb dX7_simplest_1 (by decide) ?_
  refine lv_sipush (v := 300) hx hb dX7_simplest_2 (by decide) ?_
  refine kk_Si (As := [.int p1, .int 1, .int 300]) (rest := []) (wr := [(aY, .inr (7, [.ref aS, .ref rY_images, .ref rY_kept, .ref rY_law, .ref rY_reader, .ref aD, .ref rY_stages, .ref rY_row, .ref rY_bestRow, .int Y_bestPeak, .int Y_bads, .int Y_noes, .int Y_fulls])), (aS, .inr (4, [.ref aN, .ref rS_text, .ref aP, .ref aC, .ref rS_turns])), (aN, .inl (cN, 8, .inl fN)), (aP, .inr (3, [.ref aPT, .ref aPF, .int P_count])), (aPT, .inl (cPT, 8, .inl fPT)), (aPF, .inl (cPF, 8, .inl fPF)), (aC, .inr (0, [.long C_place, .long C_speed, .int C_posture, .int C_since, .int C_height, .int C_ticks, .int C_way, .int C_strength, .int C_drops, .int C_greatestDrop, .long C_otherPlace, .long C_otherSpeed])), (aD, .inr (0, [.long D_place, .long D_speed, .int D_posture, .int D_since, .int D_height, .int D_ticks, .int D_way, .int D_strength, .int D_drops, .int D_greatestDrop, .long D_otherPlace, .long D_otherSpeed]))]) ⟨hx, hb, hml, hown, hts⟩ (c_X7_within l G p1 1 300) (kk_cwS 3 hts hsb wd_136 wd_137 wd_2 wd_138 rfl rfl hd_X7_within ⟨Nat.le_of_ble_eq_true rfl, Nat.le_of_ble_eq_true rfl⟩) hA hK hq [] [0, 1, 2, 3, 4, 5, 6, 7] [] rfl rfl rfl (by decide) (by decide) (by decide) rfl hl.1 rfl (Nat.le_of_ble_eq_true rfl) dX7_simplest_5 ⟨Nat.zero_le _, Nat.zero_le _⟩ (fun r_2 u_1 H locs h_3 hq => ?_)
  obtain ⟨er_2, zr_2⟩ := h_3
  have hq : kAt G A s [(aY, .inr (7, [.ref aS, .ref rY_images, .ref rY_kept, .ref rY_law, .ref rY_reader, .ref aD, .ref rY_stages, .ref rY_row, .ref rY_bestRow, .int Y_bestPeak, .int Y_bads, .int Y_noes, .int Y_fulls])), (aS, .inr (4, [.ref aN, .ref rS_text, .ref aP, .ref aC, .ref rS_turns])), (aN, .inl (cN, 8, .inl fN)), (aP, .inr (3, [.ref aPT, .ref aPF, .int P_count])), (aPT, .inl (cPT, 8, .inl fPT)), (aPF, .inl (cPF, 8, .inl fPF)), (aC, .inr (0, [.long C_place, .long C_speed, .int C_posture, .int C_since, .int C_height, .int C_ticks, .int C_way, .int C_strength, .int C_drops, .int C_greatestDrop, .long C_otherPlace, .long C_otherSpeed])), (aD, .inr (0, [.long D_place, .long D_speed, .int D_posture, .int D_since, .int D_height, .int D_ticks, .int D_way, .int D_strength, .int D_drops, .int D_greatestDrop, .long D_otherPlace, .long D_otherSpeed]))] H locs := hq
  have hrw := er_2
  refine lv_if_ne (tgt := 18) hx hb dX7_simplest_8 (by decide) (fun c_4 => ?_) (fun c_4 => ?_)
  · skip
    have hn5 : p1.toInt ≤ 500 := by have := kk_le2 (k := 300) rfl (wi_le (hrw ▸ c_4)).2; omega
    refine lv_iconst (v := 0) hx hb dX7_simplest_18 (by decide) ?_
    refine lv_istore_n (lv' := [(2, .int 0), (0, .ref aY), (1, .int p1)]) hx hb dX7_simplest_19 rfl hl (by decide) rfl (fun ls hl => ?_)
    refine kk_loop13 (fun N20 (i : Int32) (pl : Int64) (sp : Int64) (po : Int32) (si : Int32) (he : Int32) (ti : Int32) (wa : Int32) (sg : Int32) (dr : Int32) (gd : Int32) (op : Int64) (os : Int64) (H : Heap) (locs : List Loc) (ls : Array Slot) => lpX7_simplest_20 p1 Y_bads fN P_count fPT fPF C_place C_speed C_posture C_since C_height C_ticks C_way C_strength C_drops C_greatestDrop C_otherPlace C_otherSpeed (22) 0 D_place D_speed D_posture D_since D_height D_ticks D_way D_strength D_drops D_greatestDrop D_otherPlace D_otherSpeed = lpX7_simplest_20 p1 Y_bads fN P_count fPT fPF C_place C_speed C_posture C_since C_height C_ticks C_way C_strength C_drops C_greatestDrop C_otherPlace C_otherSpeed N20 i pl sp po si he ti wa sg dr gd op os ∧ (0 ≤ i.toInt) ∧ (i.toInt ≤ 21) ∧ (i.toInt + N20 = 22) ∧ lv_has ls 3 [(2, .int i), (0, .ref aY), (1, .int p1)] ∧ kAt G A s [(aY, .inr (7, [.ref aS, .ref rY_images, .ref rY_kept, .ref rY_law, .ref rY_reader, .ref aD, .ref rY_stages, .ref rY_row, .ref rY_bestRow, .int Y_bestPeak, .int Y_bads, .int Y_noes, .int Y_fulls])), (aS, .inr (4, [.ref aN, .ref rS_text, .ref aP, .ref aC, .ref rS_turns])), (aN, .inl (cN, 8, .inl fN)), (aP, .inr (3, [.ref aPT, .ref aPF, .int P_count])), (aPT, .inl (cPT, 8, .inl fPT)), (aPF, .inl (cPF, 8, .inl fPF)), (aC, .inr (0, [.long C_place, .long C_speed, .int C_posture, .int C_since, .int C_height, .int C_ticks, .int C_way, .int C_strength, .int C_drops, .int C_greatestDrop, .long C_otherPlace, .long C_otherSpeed])), (aD, .inr (0, [.long pl, .long sp, .int po, .int si, .int he, .int ti, .int wa, .int sg, .int dr, .int gd, .long op, .long os]))] H locs) 20 (fun i pl sp po si he ti wa sg dr gd op os => []) (fun i pl sp po si he ti wa sg dr gd op os H locs ls hv => ?_) (fun N20 i pl sp po si he ti wa sg dr gd op os H locs ls ih20 hv => ?_) (22) 0 D_place D_speed D_posture D_since D_height D_ticks D_way D_strength D_drops D_greatestDrop D_otherPlace D_otherSpeed _ _ _ ⟨rfl, (by decide), (by decide), (by decide), lv_sub hl [0, 1, 2] rfl, hq⟩
    · skip
      obtain ⟨hrel20, i0, i1, hN, hl, hq⟩ := hv
      omega
    · skip
      obtain ⟨hrel20, i0, i1, hN, hl, hq⟩ := hv
      refine lv_iload_n hx hb dX7_simplest_20 rfl (lv_at hl 0 rfl) ?_
      refine lv_bipush (v := 20) hx hb dX7_simplest_21 (by decide) ?_
      refine lv_icmp_gt (tgt := 43) hx hb dX7_simplest_23 (by decide) (fun c_5 => ?_) (fun c_5 => ?_)
      · skip
        refine lv_iconst (v := -1) hx hb dX7_simplest_43 (by decide) ?_
        have hf : (((-1), Y_bads, pl, sp, po, si, he, ti, wa, sg, dr, gd, op, os) : Int32 × Int32 × Int64 × Int64 × Int32 × Int32 × Int32 × Int32 × Int32 × Int32 × Int32 × Int32 × Int64 × Int64) = fX7_simplest p1 Y_bads fN P_count fPT fPF C_place C_speed C_posture C_since C_height C_ticks C_way C_strength C_drops C_greatestDrop C_otherPlace C_otherSpeed D_place D_speed D_posture D_since D_height D_ticks D_way D_strength D_drops D_greatestDrop D_otherPlace D_otherSpeed := by
          exact ((congrArg (fun (r_2 : Int32) => ((if r_2 = 0 then (
    let r_11 : Int32 := (fX7_refusedAsBad (-2) Y_bads).1
    let u_10 : Int32 := (fX7_refusedAsBad (-2) Y_bads).2
    (r_11, u_10, D_place, D_speed, D_posture, D_since, D_height, D_ticks, D_way, D_strength, D_drops, D_greatestDrop, D_otherPlace, D_otherSpeed))
  else (
    lpX7_simplest_20 p1 Y_bads fN P_count fPT fPF C_place C_speed C_posture C_since C_height C_ticks C_way C_strength C_drops C_greatestDrop C_otherPlace C_otherSpeed (22) 0 D_place D_speed D_posture D_since D_height D_ticks D_way D_strength D_drops D_greatestDrop D_otherPlace D_otherSpeed)) : Int32 × Int32 × Int64 × Int64 × Int32 × Int32 × Int32 × Int32 × Int32 × Int32 × Int32 × Int32 × Int64 × Int64)) er_2.symm).trans ((if_neg c_4).trans (hrel20.trans ((if_pos c_5))))).symm
        have hf1 := congrArg Prod.fst hf
        have hf2 := congrArg Prod.snd hf
        exact kk_ei hx hb hr hlocks hK hq [0, 1, 2, 3, 4, 5, 6, 7] (Y_bads, pl, sp, po, si, he, ti, wa, sg, dr, gd, op, os) rfl (by decide) dX7_simplest_44 ⟨hf1, hf2⟩
      · skip
        have hi := kk_ngt (k := 20) rfl c_5
        refine lv_aload_n hx hb dX7_simplest_26 rfl (lv_at hl 1 rfl) ?_
        refine lv_iload_n hx hb dX7_simplest_27 rfl (lv_at hl 0 rfl) ?_
        refine lv_iload_n hx hb dX7_simplest_28 rfl (lv_at hl 2 rfl) ?_
        refine kk_VDi (As := [.int i, .int p1]) (rest := []) (wr := []) ⟨hx, hb, hml, hown, hts⟩ (c_X7_pumps l G ts aY aS aN aP aPT aPF aC aD rY_images rY_kept rY_law rY_reader rY_stages rY_row rY_bestRow rS_text rS_turns cN cPT cPF i p1 Y_bestPeak Y_bads Y_noes Y_fulls fN P_count fPT fPF C_place C_speed C_posture C_since C_height C_ticks C_way C_strength C_drops C_greatestDrop C_otherPlace C_otherSpeed pl sp po si he ti wa sg dr gd op os hn5) (kk_cwV 2 hts hsb wd_766 wd_767 wd_768 wd_2 wd_769 rfl rfl hd_X7_pumps ⟨Nat.le_of_ble_eq_true rfl, Nat.le_of_ble_eq_true rfl⟩) hE hA hK hq [0, 1, 2, 3, 4, 5, 6, 7] [] [0, 1, 2] rfl rfl rfl (by decide) (by decide) (by decide) 0 7 rfl rfl rfl rfl hl.1 rfl (Nat.le_of_ble_eq_true rfl) dX7_simplest_29 ⟨Nat.zero_le _, Nat.zero_le _⟩ (fun r_7 u_6 H locs h_8 hq => ?_)
        obtain ⟨er_7, eu_6, zr_7⟩ := h_8
        have hq : kAt G A s [(aY, .inr (7, [.ref aS, .ref rY_images, .ref rY_kept, .ref rY_law, .ref rY_reader, .ref aD, .ref rY_stages, .ref rY_row, .ref rY_bestRow, .int Y_bestPeak, .int Y_bads, .int Y_noes, .int Y_fulls])), (aS, .inr (4, [.ref aN, .ref rS_text, .ref aP, .ref aC, .ref rS_turns])), (aN, .inl (cN, 8, .inl fN)), (aP, .inr (3, [.ref aPT, .ref aPF, .int P_count])), (aPT, .inl (cPT, 8, .inl fPT)), (aPF, .inl (cPF, 8, .inl fPF)), (aC, .inr (0, [.long C_place, .long C_speed, .int C_posture, .int C_since, .int C_height, .int C_ticks, .int C_way, .int C_strength, .int C_drops, .int C_greatestDrop, .long C_otherPlace, .long C_otherSpeed])), (aD, .inr (0, [.long u_6.1, .long u_6.2.1, .int u_6.2.2.1, .int u_6.2.2.2.1, .int u_6.2.2.2.2.1, .int u_6.2.2.2.2.2.1, .int u_6.2.2.2.2.2.2.1, .int u_6.2.2.2.2.2.2.2.1, .int u_6.2.2.2.2.2.2.2.2.1, .int u_6.2.2.2.2.2.2.2.2.2.1, .long u_6.2.2.2.2.2.2.2.2.2.2.1, .long u_6.2.2.2.2.2.2.2.2.2.2.2]))] H locs := hq
        refine lv_if_eq (tgt := 37) hx hb dX7_simplest_32 (by decide) (fun c_9 => ?_) (fun c_9 => ?_)
        · skip
          refine lv_iinc (v := i + 1) (lv' := [(2, .int (i + 1)), (0, .ref aY), (1, .int p1)]) hx hb dX7_simplest_37 hl (k := 0) rfl rfl (by decide) rfl (fun ls hl => ?_)
          refine lv_goto (tgt := 20) hx hb dX7_simplest_40 (by decide) ?_
          exact ih20 (i + 1) u_6.1 u_6.2.1 u_6.2.2.1 u_6.2.2.2.1 u_6.2.2.2.2.1 u_6.2.2.2.2.2.1 u_6.2.2.2.2.2.2.1 u_6.2.2.2.2.2.2.2.1 u_6.2.2.2.2.2.2.2.2.1 u_6.2.2.2.2.2.2.2.2.2.1 u_6.2.2.2.2.2.2.2.2.2.2.1 u_6.2.2.2.2.2.2.2.2.2.2.2 _ _ _ ⟨(hrel20.trans ((if_neg c_5).trans ((congrArg (fun (r_7 : Int32) => ((let u_6 : Int64 × Int64 × Int32 × Int32 × Int32 × Int32 × Int32 × Int32 × Int32 × Int32 × Int64 × Int64 := (fX7_pumps i p1 fN P_count fPT fPF C_place C_speed C_posture C_since C_height C_ticks C_way C_strength C_drops C_greatestDrop C_otherPlace C_otherSpeed pl sp po si he ti wa sg dr gd op os).2
    if r_7 = 0 then (
    lpX7_simplest_20 p1 Y_bads fN P_count fPT fPF C_place C_speed C_posture C_since C_height C_ticks C_way C_strength C_drops C_greatestDrop C_otherPlace C_otherSpeed N20 (i + 1) u_6.1 u_6.2.1 u_6.2.2.1 u_6.2.2.2.1 u_6.2.2.2.2.1 u_6.2.2.2.2.2.1 u_6.2.2.2.2.2.2.1 u_6.2.2.2.2.2.2.2.1 u_6.2.2.2.2.2.2.2.2.1 u_6.2.2.2.2.2.2.2.2.2.1 u_6.2.2.2.2.2.2.2.2.2.2.1 u_6.2.2.2.2.2.2.2.2.2.2.2)
    else (
    (i, Y_bads, u_6.1, u_6.2.1, u_6.2.2.1, u_6.2.2.2.1, u_6.2.2.2.2.1, u_6.2.2.2.2.2.1, u_6.2.2.2.2.2.2.1, u_6.2.2.2.2.2.2.2.1, u_6.2.2.2.2.2.2.2.2.1, u_6.2.2.2.2.2.2.2.2.2.1, u_6.2.2.2.2.2.2.2.2.2.2.1, u_6.2.2.2.2.2.2.2.2.2.2.2))) : Int32 × Int32 × Int64 × Int64 × Int32 × Int32 × Int32 × Int32 × Int32 × Int32 × Int32 × Int32 × Int64 × Int64)) er_7.symm).trans ((congrArg (fun (u_6 : Int64 × Int64 × Int32 × Int32 × Int32 × Int32 × Int32 × Int32 × Int32 × Int32 × Int64 × Int64) => ((if r_7 = 0 then (
    lpX7_simplest_20 p1 Y_bads fN P_count fPT fPF C_place C_speed C_posture C_since C_height C_ticks C_way C_strength C_drops C_greatestDrop C_otherPlace C_otherSpeed N20 (i + 1) u_6.1 u_6.2.1 u_6.2.2.1 u_6.2.2.2.1 u_6.2.2.2.2.1 u_6.2.2.2.2.2.1 u_6.2.2.2.2.2.2.1 u_6.2.2.2.2.2.2.2.1 u_6.2.2.2.2.2.2.2.2.1 u_6.2.2.2.2.2.2.2.2.2.1 u_6.2.2.2.2.2.2.2.2.2.2.1 u_6.2.2.2.2.2.2.2.2.2.2.2)
    else (
    (i, Y_bads, u_6.1, u_6.2.1, u_6.2.2.1, u_6.2.2.2.1, u_6.2.2.2.2.1, u_6.2.2.2.2.2.1, u_6.2.2.2.2.2.2.1, u_6.2.2.2.2.2.2.2.1, u_6.2.2.2.2.2.2.2.2.1, u_6.2.2.2.2.2.2.2.2.2.1, u_6.2.2.2.2.2.2.2.2.2.2.1, u_6.2.2.2.2.2.2.2.2.2.2.2))) : Int32 × Int32 × Int64 × Int64 × Int32 × Int32 × Int32 × Int32 × Int32 × Int32 × Int32 × Int32 × Int64 × Int64)) eu_6.symm).trans ((if_pos c_9)))))), (by have := kk_inc (x := i) (by omega); omega), (by have := kk_inc (x := i) (by omega); omega), (by have := kk_inc (x := i) (by omega); omega), lv_sub hl [0, 1, 2] rfl, hq⟩
        · skip
          refine lv_iload_n hx hb dX7_simplest_35 rfl (lv_at hl 0 rfl) ?_
          have hf : ((i, Y_bads, u_6.1, u_6.2.1, u_6.2.2.1, u_6.2.2.2.1, u_6.2.2.2.2.1, u_6.2.2.2.2.2.1, u_6.2.2.2.2.2.2.1, u_6.2.2.2.2.2.2.2.1, u_6.2.2.2.2.2.2.2.2.1, u_6.2.2.2.2.2.2.2.2.2.1, u_6.2.2.2.2.2.2.2.2.2.2.1, u_6.2.2.2.2.2.2.2.2.2.2.2) : Int32 × Int32 × Int64 × Int64 × Int32 × Int32 × Int32 × Int32 × Int32 × Int32 × Int32 × Int32 × Int64 × Int64) = fX7_simplest p1 Y_bads fN P_count fPT fPF C_place C_speed C_posture C_since C_height C_ticks C_way C_strength C_drops C_greatestDrop C_otherPlace C_otherSpeed D_place D_speed D_posture D_since D_height D_ticks D_way D_strength D_drops D_greatestDrop D_otherPlace D_otherSpeed := by
            exact ((congrArg (fun (r_2 : Int32) => ((if r_2 = 0 then (
    let r_11 : Int32 := (fX7_refusedAsBad (-2) Y_bads).1
    let u_10 : Int32 := (fX7_refusedAsBad (-2) Y_bads).2
    (r_11, u_10, D_place, D_speed, D_posture, D_since, D_height, D_ticks, D_way, D_strength, D_drops, D_greatestDrop, D_otherPlace, D_otherSpeed))
  else (
    lpX7_simplest_20 p1 Y_bads fN P_count fPT fPF C_place C_speed C_posture C_since C_height C_ticks C_way C_strength C_drops C_greatestDrop C_otherPlace C_otherSpeed (22) 0 D_place D_speed D_posture D_since D_height D_ticks D_way D_strength D_drops D_greatestDrop D_otherPlace D_otherSpeed)) : Int32 × Int32 × Int64 × Int64 × Int32 × Int32 × Int32 × Int32 × Int32 × Int32 × Int32 × Int32 × Int64 × Int64)) er_2.symm).trans ((if_neg c_4).trans (hrel20.trans ((if_neg c_5).trans ((congrArg (fun (r_7 : Int32) => ((let u_6 : Int64 × Int64 × Int32 × Int32 × Int32 × Int32 × Int32 × Int32 × Int32 × Int32 × Int64 × Int64 := (fX7_pumps i p1 fN P_count fPT fPF C_place C_speed C_posture C_since C_height C_ticks C_way C_strength C_drops C_greatestDrop C_otherPlace C_otherSpeed pl sp po si he ti wa sg dr gd op os).2
    if r_7 = 0 then (
    lpX7_simplest_20 p1 Y_bads fN P_count fPT fPF C_place C_speed C_posture C_since C_height C_ticks C_way C_strength C_drops C_greatestDrop C_otherPlace C_otherSpeed N20 (i + 1) u_6.1 u_6.2.1 u_6.2.2.1 u_6.2.2.2.1 u_6.2.2.2.2.1 u_6.2.2.2.2.2.1 u_6.2.2.2.2.2.2.1 u_6.2.2.2.2.2.2.2.1 u_6.2.2.2.2.2.2.2.2.1 u_6.2.2.2.2.2.2.2.2.2.1 u_6.2.2.2.2.2.2.2.2.2.2.1 u_6.2.2.2.2.2.2.2.2.2.2.2)
    else (
    (i, Y_bads, u_6.1, u_6.2.1, u_6.2.2.1, u_6.2.2.2.1, u_6.2.2.2.2.1, u_6.2.2.2.2.2.1, u_6.2.2.2.2.2.2.1, u_6.2.2.2.2.2.2.2.1, u_6.2.2.2.2.2.2.2.2.1, u_6.2.2.2.2.2.2.2.2.2.1, u_6.2.2.2.2.2.2.2.2.2.2.1, u_6.2.2.2.2.2.2.2.2.2.2.2))) : Int32 × Int32 × Int64 × Int64 × Int32 × Int32 × Int32 × Int32 × Int32 × Int32 × Int32 × Int32 × Int64 × Int64)) er_7.symm).trans ((congrArg (fun (u_6 : Int64 × Int64 × Int32 × Int32 × Int32 × Int32 × Int32 × Int32 × Int32 × Int32 × Int64 × Int64) => ((if r_7 = 0 then (
    lpX7_simplest_20 p1 Y_bads fN P_count fPT fPF C_place C_speed C_posture C_since C_height C_ticks C_way C_strength C_drops C_greatestDrop C_otherPlace C_otherSpeed N20 (i + 1) u_6.1 u_6.2.1 u_6.2.2.1 u_6.2.2.2.1 u_6.2.2.2.2.1 u_6.2.2.2.2.2.1 u_6.2.2.2.2.2.2.1 u_6.2.2.2.2.2.2.2.1 u_6.2.2.2.2.2.2.2.2.1 u_6.2.2.2.2.2.2.2.2.2.1 u_6.2.2.2.2.2.2.2.2.2.2.1 u_6.2.2.2.2.2.2.2.2.2.2.2)
    else (
    (i, Y_bads, u_6.1, u_6.2.1, u_6.2.2.1, u_6.2.2.2.1, u_6.2.2.2.2.1, u_6.2.2.2.2.2.1, u_6.2.2.2.2.2.2.1, u_6.2.2.2.2.2.2.2.1, u_6.2.2.2.2.2.2.2.2.1, u_6.2.2.2.2.2.2.2.2.2.1, u_6.2.2.2.2.2.2.2.2.2.2.1, u_6.2.2.2.2.2.2.2.2.2.2.2))) : Int32 × Int32 × Int64 × Int64 × Int32 × Int32 × Int32 × Int32 × Int32 × Int32 × Int32 × Int32 × Int64 × Int64)) eu_6.symm).trans ((if_neg c_9)))))))).symm
          have hf1 := congrArg Prod.fst hf
          have hf2 := congrArg Prod.snd hf
          exact kk_ei hx hb hr hlocks hK hq [0, 1, 2, 3, 4, 5, 6, 7] (Y_bads, u_6.1, u_6.2.1, u_6.2.2.1, u_6.2.2.2.1, u_6.2.2.2.2.1, u_6.2.2.2.2.2.1, u_6.2.2.2.2.2.2.1, u_6.2.2.2.2.2.2.2.1, u_6.2.2.2.2.2.2.2.2.1, u_6.2.2.2.2.2.2.2.2.2.1, u_6.2.2.2.2.2.2.2.2.2.2.1, u_6.2.2.2.2.2.2.2.2.2.2.2) rfl (by decide) dX7_simplest_36 ⟨hf1, hf2⟩
  · skip
    refine lv_aload_n hx hb dX7_simplest_11 rfl (lv_at hl 0 rfl) ?_
    refine lv_bipush (v := -2) hx hb dX7_simplest_12 (by decide) ?_
    refine kk_Vi (As := [.int (-2)]) (rest := []) (wr := [(aS, .inr (4, [.ref aN, .ref rS_text, .ref aP, .ref aC, .ref rS_turns])), (aN, .inl (cN, 8, .inl fN)), (aP, .inr (3, [.ref aPT, .ref aPF, .int P_count])), (aPT, .inl (cPT, 8, .inl fPT)), (aPF, .inl (cPF, 8, .inl fPF)), (aC, .inr (0, [.long C_place, .long C_speed, .int C_posture, .int C_since, .int C_height, .int C_ticks, .int C_way, .int C_strength, .int C_drops, .int C_greatestDrop, .long C_otherPlace, .long C_otherSpeed])), (aD, .inr (0, [.long D_place, .long D_speed, .int D_posture, .int D_since, .int D_height, .int D_ticks, .int D_way, .int D_strength, .int D_drops, .int D_greatestDrop, .long D_otherPlace, .long D_otherSpeed]))]) ⟨hx, hb, hml, hown, hts⟩ (c_X7_refusedAsBad l G aY aS rY_images rY_kept rY_law rY_reader aD rY_stages rY_row rY_bestRow (-2) Y_bestPeak Y_bads Y_noes Y_fulls) (kk_cwV 1 hts hsb wd_139 wd_140 wd_141 wd_2 wd_142 rfl rfl hd_X7_refusedAsBad ⟨Nat.le_of_ble_eq_true rfl, Nat.le_of_ble_eq_true rfl⟩) hA hK hq [0] [1, 2, 3, 4, 5, 6, 7] [] rfl rfl rfl (by decide) (by decide) (by decide) 0 7 rfl rfl rfl rfl hl.1 rfl (Nat.le_of_ble_eq_true rfl) dX7_simplest_14 ⟨Nat.zero_le _, Nat.zero_le _⟩ (fun r_11 u_10 H locs h_12 hq => ?_)
    obtain ⟨er_11, eu_10⟩ := h_12
    have hq : kAt G A s [(aS, .inr (4, [.ref aN, .ref rS_text, .ref aP, .ref aC, .ref rS_turns])), (aN, .inl (cN, 8, .inl fN)), (aP, .inr (3, [.ref aPT, .ref aPF, .int P_count])), (aPT, .inl (cPT, 8, .inl fPT)), (aPF, .inl (cPF, 8, .inl fPF)), (aC, .inr (0, [.long C_place, .long C_speed, .int C_posture, .int C_since, .int C_height, .int C_ticks, .int C_way, .int C_strength, .int C_drops, .int C_greatestDrop, .long C_otherPlace, .long C_otherSpeed])), (aD, .inr (0, [.long D_place, .long D_speed, .int D_posture, .int D_since, .int D_height, .int D_ticks, .int D_way, .int D_strength, .int D_drops, .int D_greatestDrop, .long D_otherPlace, .long D_otherSpeed])), (aY, .inr (7, [.ref aS, .ref rY_images, .ref rY_kept, .ref rY_law, .ref rY_reader, .ref aD, .ref rY_stages, .ref rY_row, .ref rY_bestRow, .int Y_bestPeak, .int u_10, .int Y_noes, .int Y_fulls]))] H locs := hq
    have hf : ((r_11, u_10, D_place, D_speed, D_posture, D_since, D_height, D_ticks, D_way, D_strength, D_drops, D_greatestDrop, D_otherPlace, D_otherSpeed) : Int32 × Int32 × Int64 × Int64 × Int32 × Int32 × Int32 × Int32 × Int32 × Int32 × Int32 × Int32 × Int64 × Int64) = fX7_simplest p1 Y_bads fN P_count fPT fPF C_place C_speed C_posture C_since C_height C_ticks C_way C_strength C_drops C_greatestDrop C_otherPlace C_otherSpeed D_place D_speed D_posture D_since D_height D_ticks D_way D_strength D_drops D_greatestDrop D_otherPlace D_otherSpeed := by
      exact ((congrArg (fun (r_2 : Int32) => ((if r_2 = 0 then (
    let r_11 : Int32 := (fX7_refusedAsBad (-2) Y_bads).1
    let u_10 : Int32 := (fX7_refusedAsBad (-2) Y_bads).2
    (r_11, u_10, D_place, D_speed, D_posture, D_since, D_height, D_ticks, D_way, D_strength, D_drops, D_greatestDrop, D_otherPlace, D_otherSpeed))
  else (
    lpX7_simplest_20 p1 Y_bads fN P_count fPT fPF C_place C_speed C_posture C_since C_height C_ticks C_way C_strength C_drops C_greatestDrop C_otherPlace C_otherSpeed (22) 0 D_place D_speed D_posture D_since D_height D_ticks D_way D_strength D_drops D_greatestDrop D_otherPlace D_otherSpeed)) : Int32 × Int32 × Int64 × Int64 × Int32 × Int32 × Int32 × Int32 × Int32 × Int32 × Int32 × Int32 × Int64 × Int64)) er_2.symm).trans ((if_pos c_4).trans ((congrArg (fun (r_11 : Int32) => ((let u_10 : Int32 := (fX7_refusedAsBad (-2) Y_bads).2
  (r_11, u_10, D_place, D_speed, D_posture, D_since, D_height, D_ticks, D_way, D_strength, D_drops, D_greatestDrop, D_otherPlace, D_otherSpeed)) : Int32 × Int32 × Int64 × Int64 × Int32 × Int32 × Int32 × Int32 × Int32 × Int32 × Int32 × Int32 × Int64 × Int64)) er_11.symm).trans ((congrArg (fun (u_10 : Int32) => (((r_11, u_10, D_place, D_speed, D_posture, D_since, D_height, D_ticks, D_way, D_strength, D_drops, D_greatestDrop, D_otherPlace, D_otherSpeed)) : Int32 × Int32 × Int64 × Int64 × Int32 × Int32 × Int32 × Int32 × Int32 × Int32 × Int32 × Int32 × Int64 × Int64)) eu_10.symm))))).symm
    have hf1 := congrArg Prod.fst hf
    have hf2 := congrArg Prod.snd hf
    exact kk_ei hx hb hr hlocks hK hq [7, 0, 1, 2, 3, 4, 5, 6] (u_10, D_place, D_speed, D_posture, D_since, D_height, D_ticks, D_way, D_strength, D_drops, D_greatestDrop, D_otherPlace, D_otherSpeed) rfl (by decide) dX7_simplest_17 ⟨hf1, hf2⟩
