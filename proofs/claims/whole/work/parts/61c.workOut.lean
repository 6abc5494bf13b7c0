theorem dec_b {x y : Int32} {n : Int} (e : y = x - 1) (h0 : 0 < x.toInt) (h1 : x.toInt ≤ n) : 0 ≤ y.toInt ∧ y.toInt < n ∧ y.toInt = x.toInt - 1 := by
  subst e
  have := kk_dec (x := x) (by omega)
  omega
def fX8_workOut (M_valueMany : Int32) (M_signMany : Int32) (fVs : Nat → Int64) (fSg : Nat → Int32) : Int32 × Int32 × (Nat → Int64) :=
  let y5_1 : Int64 := if fSg ((M_signMany - 1).toNatClampNeg) = 38 then (if fVs ((M_valueMany - 1 - 1).toNatClampNeg) = 0 then 0 else if fVs ((M_valueMany - 1).toNatClampNeg) = 0 then 0 else 1) else if fSg ((M_signMany - 1).toNatClampNeg) = 42 then (fVs ((M_valueMany - 1 - 1).toNatClampNeg)) * (fVs ((M_valueMany - 1).toNatClampNeg)) else if fSg ((M_signMany - 1).toNatClampNeg) = 43 then (fVs ((M_valueMany - 1 - 1).toNatClampNeg)) + (fVs ((M_valueMany - 1).toNatClampNeg)) else if fSg ((M_signMany - 1).toNatClampNeg) = 45 then (fVs ((M_valueMany - 1 - 1).toNatClampNeg)) - (fVs ((M_valueMany - 1).toNatClampNeg)) else if fSg ((M_signMany - 1).toNatClampNeg) = 60 then (if fVs ((M_valueMany - 1 - 1).toNatClampNeg) < fVs ((M_valueMany - 1).toNatClampNeg) then 1 else 0) else if fSg ((M_signMany - 1).toNatClampNeg) = 61 then (if fVs ((M_valueMany - 1 - 1).toNatClampNeg) = fVs ((M_valueMany - 1).toNatClampNeg) then 1 else 0) else if fSg ((M_signMany - 1).toNatClampNeg) = 62 then (if fVs ((M_valueMany - 1).toNatClampNeg) < fVs ((M_valueMany - 1 - 1).toNatClampNeg) then 1 else 0) else if fSg ((M_signMany - 1).toNatClampNeg) = 124 then (if fVs ((M_valueMany - 1 - 1).toNatClampNeg) = 0 then if fVs ((M_valueMany - 1).toNatClampNeg) = 0 then 0 else 1 else 1) else (if fVs ((M_valueMany - 1).toNatClampNeg) = 0 then 0 else (fVs ((M_valueMany - 1 - 1).toNatClampNeg)) / (fVs ((M_valueMany - 1).toNatClampNeg)))
  (M_valueMany - 1, M_signMany - 1, vp_updL fVs ((M_valueMany - 1 - 1).toNatClampNeg) y5_1)

set_option maxHeartbeats 4000000 in
set_option maxRecDepth 100000 in
theorem c_X8_workOut (l : Launch) (G : va_G) (aM aVs aSg rM_now rM_kept rM_isKept rM_refused rM_was : Nat) (cVs cSg : ClassId) (M_at : Int32) (M_fault : Int32) (M_valueMany : Int32) (M_signMany : Int32) (M_tells : Int64) (M_way : Int32) (M_wish : Int32) (M_moreTick : Int64) (M_moreForce : Int64) (M_runTurns : Int32) (M_runFirst : Int64) (M_runLast : Int64) (M_peak : Int64) (M_beside : Int64) (M_besideAt : Int32) (fVs : Nat → Int64) (fSg : Nat → Int32) (s0 : 0 < M_signMany.toInt) (s1 : M_signMany.toInt ≤ 128) (v0 : 2 ≤ M_valueMany.toInt) (v1 : M_valueMany.toInt ≤ 64) : kCv l yX8_workOut (Cond.code yX8_workOut cX8_workOut 7 none :: wsL_law) ({ frames := 0, cells := 0, slots := 0, locals := 0 }) G [(cVs, .long), (cSg, .int)] [.ref aM] [(aM, .inr (8, [.ref rM_now, .ref rM_kept, .ref rM_isKept, .ref rM_refused, .int M_at, .int M_fault, .ref aVs, .int M_valueMany, .ref aSg, .int M_signMany, .long M_tells, .int M_way, .int M_wish, .long M_moreTick, .long M_moreForce, .int M_runTurns, .long M_runFirst, .long M_runLast, .ref rM_was, .long M_peak, .long M_beside, .int M_besideAt])), (aVs, .inl (cVs, 64, .inr (.inl fVs))), (aSg, .inl (cSg, 128, .inl fSg))] (fun (u : Int32 × Int32 × (Nat → Int64)) => u = fX8_workOut M_valueMany M_signMany fVs fSg) (fun (u : Int32 × Int32 × (Nat → Int64)) => [(aM, .inr (8, [.ref rM_now, .ref rM_kept, .ref rM_isKept, .ref rM_refused, .int M_at, .int M_fault, .ref aVs, .int u.1, .ref aSg, .int u.2.1, .long M_tells, .int M_way, .int M_wish, .long M_moreTick, .long M_moreForce, .int M_runTurns, .long M_runFirst, .long M_runLast, .ref rM_was, .long M_peak, .long M_beside, .int M_besideAt])), (aVs, .inl (cVs, 64, .inr (.inl u.2.2))), (aSg, .inl (cSg, 128, .inl fSg))]) := by
  intro sz
  refine Met.ofW (cc := cX8_workOut) (maxL := 7) (ret := none) (by decide) rfl ?_
  intro p e s m args below meth c s₁ B hml hv
  obtain ⟨rfl, hv⟩ := hv
  obtain ⟨rfl, hK, hq, hA⟩ := kk_begin hv
  have hx := B.exec
  have hb := B.bytes
  have hr := B.returns
  have hts := atoms_spec (ws := (Cond.code yX8_workOut cX8_workOut 7 none :: wsL_law)) B.pre
  have hown : s.vm.findClass RX8 = some m.cls := findClass_of_methodNamed B.named
  have hlocks := B.notSynchronized
  have hsb : ∀ w ∈ wsL_law, w ∈ (Cond.code yX8_workOut cX8_workOut 7 none :: wsL_law) := fun _ h => List.mem_cons_of_mem _ h
  generalize va_A [(aM, .inr (8, [.ref rM_now, .ref rM_kept, .ref rM_isKept, .ref rM_refused, .int M_at, .int M_fault, .ref aVs, .int M_valueMany, .ref aSg, .int M_signMany, .long M_tells, .int M_way, .int M_wish, .long M_moreTick, .long M_moreForce, .int M_runTurns, .long M_runFirst, .long M_runLast, .ref rM_was, .long M_peak, .long M_beside, .int M_besideAt])), (aVs, .inl (cVs, 64, .inr (.inl fVs))), (aSg, .inl (cSg, 128, .inl fSg))] s.heap.size = A at hq hA ⊢
  have iX8 : ∀ w ∈ u_ws RX8 TX8 22, w ∈ (Cond.code yX8_workOut cX8_workOut 7 none :: wsL_law) := fun w h => hsb w (bin_X8 w h)
  have lk0_ := hts _ (hsb _ wd_293)
  have lk1_ := hts _ (hsb _ wd_292)
  have lk2_ := hts _ (hsb _ wd_121)
  have lk3_ := hts _ (hsb _ wd_122)
  have hl := lv_entry ([.ref aM]) (n := 7) (Nat.le_of_ble_eq_true rfl)
  rw [lg_entry_eq]
  generalize (lg_sl ([.ref aM]) ++ List.replicate (7 - (lg_sl ([.ref aM])).length) Slot.unset).toArray = ls at hl ⊢
  have hl : lv_has ls 7 [(0, .ref aM)] := hl
  refine lv_aload_n hx hb dX8_workOut_0 rfl (lv_at hl 0 rfl) ?_
  refine lv_dup hx hb dX8_workOut_1 rfl ?_
  refine kk_get (ci := 8) (v := .int M_signMany) (C := RX8) (T := TX8) (N := 22) hx hb hts iX8 hown hK hq 0 rfl rfl 9 (by decide) lk0_ rfl dX8_workOut_2 ?_
  refine lv_iconst (v := 1) hx hb dX8_workOut_5 (by decide) ?_
  refine lv_isub hx hb dX8_workOut_6 ?_
  refine kk_put (ws' := [(aM, .inr (8, [.ref rM_now, .ref rM_kept, .ref rM_isKept, .ref rM_refused, .int M_at, .int M_fault, .ref aVs, .int M_valueMany, .ref aSg, .int (M_signMany - 1), .long M_tells, .int M_way, .int M_wish, .long M_moreTick, .long M_moreForce, .int M_runTurns, .long M_runFirst, .long M_runLast, .ref rM_was, .long M_peak, .long M_beside, .int M_besideAt])), (aVs, .inl (cVs, 64, .inr (.inl fVs))), (aSg, .inl (cSg, 128, .inl fSg))]) (ci := 8) (v := .int (M_signMany - 1)) (C := RX8) (T := TX8) (N := 22) hx hb hts iX8 tyX8_ok nmX8 hown hK hq 0 rfl rfl 9 (by decide) lk0_ rfl rfl rfl (Nat.le_of_ble_eq_true rfl) dX8_workOut_7 rfl (fun H locs hq => ?_)
  have ws1 : 0 ≤ (M_signMany - 1).toInt ∧ (M_signMany - 1).toInt < (128 : Nat) := by have := kk_dec (x := M_signMany) (by omega); omega
  refine lv_aload_n hx hb dX8_workOut_10 rfl (lv_at hl 0 rfl) ?_
  refine lv_dup hx hb dX8_workOut_11 rfl ?_
  refine kk_get (ci := 8) (v := .int M_valueMany) (C := RX8) (T := TX8) (N := 22) hx hb hts iX8 hown hK hq 0 rfl rfl 7 (by decide) lk1_ rfl dX8_workOut_12 ?_
  refine lv_iconst (v := 1) hx hb dX8_workOut_15 (by decide) ?_
  refine lv_isub hx hb dX8_workOut_16 ?_
  refine kk_put (ws' := [(aM, .inr (8, [.ref rM_now, .ref rM_kept, .ref rM_isKept, .ref rM_refused, .int M_at, .int M_fault, .ref aVs, .int (M_valueMany - 1), .ref aSg, .int (M_signMany - 1), .long M_tells, .int M_way, .int M_wish, .long M_moreTick, .long M_moreForce, .int M_runTurns, .long M_runFirst, .long M_runLast, .ref rM_was, .long M_peak, .long M_beside, .int M_besideAt])), (aVs, .inl (cVs, 64, .inr (.inl fVs))), (aSg, .inl (cSg, 128, .inl fSg))]) (ci := 8) (v := .int (M_valueMany - 1)) (C := RX8) (T := TX8) (N := 22) hx hb hts iX8 tyX8_ok nmX8 hown hK hq 0 rfl rfl 7 (by decide) lk1_ rfl rfl rfl (Nat.le_of_ble_eq_true rfl) dX8_workOut_17 rfl (fun H locs hq => ?_)
  have wv0 := kk_dec (x := M_valueMany) (by omega)
  have wv1 : 0 ≤ (M_valueMany - 1).toInt ∧ (M_valueMany - 1).toInt < (64 : Nat) := by omega
  have wv2 : 0 ≤ (M_valueMany - 1 - 1).toInt ∧ (M_valueMany - 1 - 1).toInt < (64 : Nat) := by have := kk_dec (x := M_valueMany - 1) (by omega); omega
  refine lv_aload_n hx hb dX8_workOut_20 rfl (lv_at hl 0 rfl) ?_
  refine kk_get (ci := 8) (v := .ref aVs) (C := RX8) (T := TX8) (N := 22) hx hb hts iX8 hown hK hq 0 rfl rfl 6 (by decide) lk2_ rfl dX8_workOut_21 ?_
  refine lv_aload_n hx hb dX8_workOut_24 rfl (lv_at hl 0 rfl) ?_
  refine kk_get (ci := 8) (v := .int (M_valueMany - 1)) (C := RX8) (T := TX8) (N := 22) hx hb hts iX8 hown hK hq 0 rfl rfl 7 (by decide) lk1_ rfl dX8_workOut_25 ?_
  refine lv_iconst (v := 1) hx hb dX8_workOut_28 (by decide) ?_
  refine lv_isub hx hb dX8_workOut_29 ?_
  refine kk_lald hx hb hK hq 1 0 rfl rfl ((M_valueMany - 1 - 1).toNatClampNeg) (kk_cl wv2.1) (kk_clt wv2.1 wv2.2) (by decide) dX8_workOut_30 ?_
  refine lv_lstore_n (lv' := [(1, .long (fVs ((M_valueMany - 1 - 1).toNatClampNeg))), (0, .ref aM)]) hx hb dX8_workOut_31 rfl hl (by decide) rfl (fun ls hl => ?_)
  refine lv_aload_n hx hb dX8_workOut_32 rfl (lv_at hl 1 rfl) ?_
  refine kk_get (ci := 8) (v := .ref aVs) (C := RX8) (T := TX8) (N := 22) hx hb hts iX8 hown hK hq 0 rfl rfl 6 (by decide) lk2_ rfl dX8_workOut_33 ?_
  refine lv_aload_n hx hb dX8_workOut_36 rfl (lv_at hl 1 rfl) ?_
  refine kk_get (ci := 8) (v := .int (M_valueMany - 1)) (C := RX8) (T := TX8) (N := 22) hx hb hts iX8 hown hK hq 0 rfl rfl 7 (by decide) lk1_ rfl dX8_workOut_37 ?_
  refine kk_lald hx hb hK hq 1 0 rfl rfl ((M_valueMany - 1).toNatClampNeg) (kk_cl wv1.1) (kk_clt wv1.1 wv1.2) (by decide) dX8_workOut_40 ?_
  refine lv_lstore_n (lv' := [(3, .long (fVs ((M_valueMany - 1).toNatClampNeg))), (1, .long (fVs ((M_valueMany - 1 - 1).toNatClampNeg))), (0, .ref aM)]) hx hb dX8_workOut_41 rfl hl (by decide) rfl (fun ls hl => ?_)
  refine lv_lconst (v := 0) hx hb dX8_workOut_42 (by decide) ?_
  refine lv_lstore (lv' := [(5, .long 0), (3, .long (fVs ((M_valueMany - 1).toNatClampNeg))), (1, .long (fVs ((M_valueMany - 1 - 1).toNatClampNeg))), (0, .ref aM)]) hx hb dX8_workOut_43 hl (by decide) rfl (fun ls hl => ?_)
  refine lv_aload_n hx hb dX8_workOut_45 rfl (lv_at hl 3 rfl) ?_
  refine kk_get (ci := 8) (v := .ref aSg) (C := RX8) (T := TX8) (N := 22) hx hb hts iX8 hown hK hq 0 rfl rfl 8 (by decide) lk3_ rfl dX8_workOut_46 ?_
  refine lv_aload_n hx hb dX8_workOut_49 rfl (lv_at hl 3 rfl) ?_
  refine kk_get (ci := 8) (v := .int (M_signMany - 1)) (C := RX8) (T := TX8) (N := 22) hx hb hts iX8 hown hK hq 0 rfl rfl 9 (by decide) lk0_ rfl dX8_workOut_50 ?_
  refine kk_iald hx hb hK hq 2 1 rfl rfl ((M_signMany - 1).toNatClampNeg) (kk_cl ws1.1) (kk_clt ws1.1 ws1.2) (by decide) dX8_workOut_53 ?_
  refine kk_join1 (fun (y5_1 : Int64) (H : Heap) (locs : List Loc) (ls : Array Slot) => y5_1 = (if fSg ((M_signMany - 1).toNatClampNeg) = 38 then (if fVs ((M_valueMany - 1 - 1).toNatClampNeg) = 0 then 0 else if fVs ((M_valueMany - 1).toNatClampNeg) = 0 then 0 else 1) else if fSg ((M_signMany - 1).toNatClampNeg) = 42 then (fVs ((M_valueMany - 1 - 1).toNatClampNeg)) * (fVs ((M_valueMany - 1).toNatClampNeg)) else if fSg ((M_signMany - 1).toNatClampNeg) = 43 then (fVs ((M_valueMany - 1 - 1).toNatClampNeg)) + (fVs ((M_valueMany - 1).toNatClampNeg)) else if fSg ((M_signMany - 1).toNatClampNeg) = 45 then (fVs ((M_valueMany - 1 - 1).toNatClampNeg)) - (fVs ((M_valueMany - 1).toNatClampNeg)) else if fSg ((M_signMany - 1).toNatClampNeg) = 60 then (if fVs ((M_valueMany - 1 - 1).toNatClampNeg) < fVs ((M_valueMany - 1).toNatClampNeg) then 1 else 0) else if fSg ((M_signMany - 1).toNatClampNeg) = 61 then (if fVs ((M_valueMany - 1 - 1).toNatClampNeg) = fVs ((M_valueMany - 1).toNatClampNeg) then 1 else 0) else if fSg ((M_signMany - 1).toNatClampNeg) = 62 then (if fVs ((M_valueMany - 1).toNatClampNeg) < fVs ((M_valueMany - 1 - 1).toNatClampNeg) then 1 else 0) else if fSg ((M_signMany - 1).toNatClampNeg) = 124 then (if fVs ((M_valueMany - 1 - 1).toNatClampNeg) = 0 then if fVs ((M_valueMany - 1).toNatClampNeg) = 0 then 0 else 1 else 1) else (if fVs ((M_valueMany - 1).toNatClampNeg) = 0 then 0 else (fVs ((M_valueMany - 1 - 1).toNatClampNeg)) / (fVs ((M_valueMany - 1).toNatClampNeg)))) ∧ lv_has ls 7 [(5, .long y5_1), (3, .long (fVs ((M_valueMany - 1).toNatClampNeg))), (1, .long (fVs ((M_valueMany - 1 - 1).toNatClampNeg))), (0, .ref aM)] ∧ kAt G A s [(aM, .inr (8, [.ref rM_now, .ref rM_kept, .ref rM_isKept, .ref rM_refused, .int M_at, .int M_fault, .ref aVs, .int (M_valueMany - 1), .ref aSg, .int (M_signMany - 1), .long M_tells, .int M_way, .int M_wish, .long M_moreTick, .long M_moreForce, .int M_runTurns, .long M_runFirst, .long M_runLast, .ref rM_was, .long M_peak, .long M_beside, .int M_besideAt])), (aVs, .inl (cVs, 64, .inr (.inl fVs))), (aSg, .inl (cSg, 128, .inl fSg))] H locs) 259 (fun y5_1 => []) (fun y5_1 H locs ls hv => ?_) (fun J_2 => ?_)
  · skip
    obtain ⟨ey5_1, hl, hq⟩ := hv
    refine lv_aload_n hx hb dX8_workOut_259 rfl (lv_at hl 3 rfl) ?_
    refine kk_get (ci := 8) (v := .ref aVs) (C := RX8) (T := TX8) (N := 22) hx hb hts iX8 hown hK hq 0 rfl rfl 6 (by decide) lk2_ rfl dX8_workOut_260 ?_
    refine lv_aload_n hx hb dX8_workOut_263 rfl (lv_at hl 3 rfl) ?_
    refine kk_get (ci := 8) (v := .int (M_valueMany - 1)) (C := RX8) (T := TX8) (N := 22) hx hb hts iX8 hown hK hq 0 rfl rfl 7 (by decide) lk1_ rfl dX8_workOut_264 ?_
    refine lv_iconst (v := 1) hx hb dX8_workOut_267 (by decide) ?_
    refine lv_isub hx hb dX8_workOut_268 ?_
    refine lv_lload hx hb dX8_workOut_269 (lv_at hl 0 rfl) ?_
    refine kk_last (ws' := [(aM, .inr (8, [.ref rM_now, .ref rM_kept, .ref rM_isKept, .ref rM_refused, .int M_at, .int M_fault, .ref aVs, .int (M_valueMany - 1), .ref aSg, .int (M_signMany - 1), .long M_tells, .int M_way, .int M_wish, .long M_moreTick, .long M_moreForce, .int M_runTurns, .long M_runFirst, .long M_runLast, .ref rM_was, .long M_peak, .long M_beside, .int M_besideAt])), (aVs, .inl (cVs, 64, .inr (.inl (vp_updL fVs ((M_valueMany - 1 - 1).toNatClampNeg) y5_1)))), (aSg, .inl (cSg, 128, .inl fSg))]) hx hb hK hq 1 0 rfl rfl ((M_valueMany - 1 - 1).toNatClampNeg) (kk_cl wv2.1) (kk_clt wv2.1 wv2.2) (by decide) dX8_workOut_271 rfl (fun H locs hq => ?_)
    have hf : ((M_valueMany - 1, M_signMany - 1, vp_updL fVs ((M_valueMany - 1 - 1).toNatClampNeg) y5_1) : Int32 × Int32 × (Nat → Int64)) = fX8_workOut M_valueMany M_signMany fVs fSg := by
      exact ((congrArg (fun (y5_1 : Int64) => (((M_valueMany - 1, M_signMany - 1, vp_updL fVs ((M_valueMany - 1 - 1).toNatClampNeg) y5_1)) : Int32 × Int32 × (Nat → Int64))) ey5_1.symm)).symm
    exact kk_ev hx hb hr hlocks hK hq [0, 1, 2] (M_valueMany - 1, M_signMany - 1, vp_updL fVs ((M_valueMany - 1 - 1).toNatClampNeg) y5_1) rfl (by decide) dX8_workOut_272 hf
  · skip
    refine kk_case (c := fSg ((M_signMany - 1).toNatClampNeg) = 38) (fun c_3 => ?_) (fun c_3 => ?_)
    · skip
      refine lv_lookup (off := 96) (tgt := 150) hx hb dX8_workOut_54 (by decide) (by rw [c_3]; try rfl) (by decide) ?_
      refine lv_lload_n hx hb dX8_workOut_150 rfl (lv_at hl 2 rfl) ?_
      refine lv_lconst (v := 0) hx hb dX8_workOut_151 (by decide) ?_
      refine kk_join1 (fun (z0_5 : Int64) (H : Heap) (locs : List Loc) (ls : Array Slot) => z0_5 = (if fVs ((M_valueMany - 1 - 1).toNatClampNeg) = 0 then 0 else if fVs ((M_valueMany - 1).toNatClampNeg) = 0 then 0 else 1) ∧ lv_has ls 7 [(5, .long 0), (3, .long (fVs ((M_valueMany - 1).toNatClampNeg))), (1, .long (fVs ((M_valueMany - 1 - 1).toNatClampNeg))), (0, .ref aM)] ∧ kAt G A s [(aM, .inr (8, [.ref rM_now, .ref rM_kept, .ref rM_isKept, .ref rM_refused, .int M_at, .int M_fault, .ref aVs, .int (M_valueMany - 1), .ref aSg, .int (M_signMany - 1), .long M_tells, .int M_way, .int M_wish, .long M_moreTick, .long M_moreForce, .int M_runTurns, .long M_runFirst, .long M_runLast, .ref rM_was, .long M_peak, .long M_beside, .int M_besideAt])), (aVs, .inl (cVs, 64, .inr (.inl fVs))), (aSg, .inl (cSg, 128, .inl fSg))] H locs) 167 (fun z0_5 => [.long z0_5]) (fun z0_5 H locs ls hv => ?_) (fun J_6 => ?_)
      · skip
        obtain ⟨rfl, hl, hq⟩ := hv
        refine lv_lstore (lv' := [(5, .long (if fVs ((M_valueMany - 1 - 1).toNatClampNeg) = 0 then 0 else if fVs ((M_valueMany - 1).toNatClampNeg) = 0 then 0 else 1)), (3, .long (fVs ((M_valueMany - 1).toNatClampNeg))), (1, .long (fVs ((M_valueMany - 1 - 1).toNatClampNeg))), (0, .ref aM)]) hx hb dX8_workOut_167 hl (by decide) rfl (fun ls hl => ?_)
        refine lv_goto (tgt := 259) hx hb dX8_workOut_169 (by decide) ?_
        exact J_2 (if fVs ((M_valueMany - 1 - 1).toNatClampNeg) = 0 then 0 else if fVs ((M_valueMany - 1).toNatClampNeg) = 0 then 0 else 1) _ _ _ ⟨(if_pos c_3).symm, lv_sub hl [0, 1, 2, 3] rfl, hq⟩
      · skip
        refine kk_lc_eq (tgt := 166) hx hb dX8_workOut_152 dX8_workOut_153 (by decide) (fun c_4 => ?_) (fun c_4 => ?_)
        · skip
          refine lv_lconst (v := 0) hx hb dX8_workOut_166 (by decide) ?_
          exact J_6 0 _ _ _ ⟨(if_pos c_4).symm, lv_sub hl [0, 1, 2, 3] rfl, hq⟩
        · skip
          refine lv_lload_n hx hb dX8_workOut_156 rfl (lv_at hl 1 rfl) ?_
          refine lv_lconst (v := 0) hx hb dX8_workOut_157 (by decide) ?_
          refine kk_lc_eq (tgt := 166) hx hb dX8_workOut_158 dX8_workOut_159 (by decide) (fun c_7 => ?_) (fun c_7 => ?_)
          · skip
            refine lv_lconst (v := 0) hx hb dX8_workOut_166 (by decide) ?_
            exact J_6 0 _ _ _ ⟨((if_neg c_4).trans (if_pos c_7)).symm, lv_sub hl [0, 1, 2, 3] rfl, hq⟩
          · skip
            refine lv_lconst (v := 1) hx hb dX8_workOut_162 (by decide) ?_
            refine lv_goto (tgt := 167) hx hb dX8_workOut_163 (by decide) ?_
            exact J_6 1 _ _ _ ⟨((if_neg c_4).trans (if_neg c_7)).symm, lv_sub hl [0, 1, 2, 3] rfl, hq⟩
    · skip
      refine kk_case (c := fSg ((M_signMany - 1).toNatClampNeg) = 42) (fun c_8 => ?_) (fun c_8 => ?_)
      · skip
        refine lv_lookup (off := 182) (tgt := 236) hx hb dX8_workOut_54 (by decide) (by rw [c_8]; try rfl) (by decide) ?_
        refine lv_lload_n hx hb dX8_workOut_236 rfl (lv_at hl 2 rfl) ?_
        refine lv_lload_n hx hb dX8_workOut_237 rfl (lv_at hl 1 rfl) ?_
        refine lv_lmul hx hb dX8_workOut_238 ?_
        refine lv_lstore (lv' := [(5, .long ((fVs ((M_valueMany - 1 - 1).toNatClampNeg)) * (fVs ((M_valueMany - 1).toNatClampNeg)))), (3, .long (fVs ((M_valueMany - 1).toNatClampNeg))), (1, .long (fVs ((M_valueMany - 1 - 1).toNatClampNeg))), (0, .ref aM)]) hx hb dX8_workOut_239 hl (by decide) rfl (fun ls hl => ?_)
        refine lv_goto (tgt := 259) hx hb dX8_workOut_241 (by decide) ?_
        exact J_2 ((fVs ((M_valueMany - 1 - 1).toNatClampNeg)) * (fVs ((M_valueMany - 1).toNatClampNeg))) _ _ _ ⟨((if_neg c_3).trans (if_pos c_8)).symm, lv_sub hl [0, 1, 2, 3] rfl, hq⟩
      · skip
        refine kk_case (c := fSg ((M_signMany - 1).toNatClampNeg) = 43) (fun c_9 => ?_) (fun c_9 => ?_)
        · skip
          refine lv_lookup (off := 166) (tgt := 220) hx hb dX8_workOut_54 (by decide) (by rw [c_9]; try rfl) (by decide) ?_
          refine lv_lload_n hx hb dX8_workOut_220 rfl (lv_at hl 2 rfl) ?_
          refine lv_lload_n hx hb dX8_workOut_221 rfl (lv_at hl 1 rfl) ?_
          refine lv_ladd hx hb dX8_workOut_222 ?_
          refine lv_lstore (lv' := [(5, .long ((fVs ((M_valueMany - 1 - 1).toNatClampNeg)) + (fVs ((M_valueMany - 1).toNatClampNeg)))), (3, .long (fVs ((M_valueMany - 1).toNatClampNeg))), (1, .long (fVs ((M_valueMany - 1 - 1).toNatClampNeg))), (0, .ref aM)]) hx hb dX8_workOut_223 hl (by decide) rfl (fun ls hl => ?_)
          refine lv_goto (tgt := 259) hx hb dX8_workOut_225 (by decide) ?_
          exact J_2 ((fVs ((M_valueMany - 1 - 1).toNatClampNeg)) + (fVs ((M_valueMany - 1).toNatClampNeg))) _ _ _ ⟨((if_neg c_3).trans ((if_neg c_8).trans (if_pos c_9))).symm, lv_sub hl [0, 1, 2, 3] rfl, hq⟩
        · skip
          refine kk_case (c := fSg ((M_signMany - 1).toNatClampNeg) = 45) (fun c_10 => ?_) (fun c_10 => ?_)
          · skip
            refine lv_lookup (off := 174) (tgt := 228) hx hb dX8_workOut_54 (by decide) (by rw [c_10]; try rfl) (by decide) ?_
            refine lv_lload_n hx hb dX8_workOut_228 rfl (lv_at hl 2 rfl) ?_
            refine lv_lload_n hx hb dX8_workOut_229 rfl (lv_at hl 1 rfl) ?_
            refine lv_lsub hx hb dX8_workOut_230 ?_
            refine lv_lstore (lv' := [(5, .long ((fVs ((M_valueMany - 1 - 1).toNatClampNeg)) - (fVs ((M_valueMany - 1).toNatClampNeg)))), (3, .long (fVs ((M_valueMany - 1).toNatClampNeg))), (1, .long (fVs ((M_valueMany - 1 - 1).toNatClampNeg))), (0, .ref aM)]) hx hb dX8_workOut_231 hl (by decide) rfl (fun ls hl => ?_)
            refine lv_goto (tgt := 259) hx hb dX8_workOut_233 (by decide) ?_
            exact J_2 ((fVs ((M_valueMany - 1 - 1).toNatClampNeg)) - (fVs ((M_valueMany - 1).toNatClampNeg))) _ _ _ ⟨((if_neg c_3).trans ((if_neg c_8).trans ((if_neg c_9).trans (if_pos c_10)))).symm, lv_sub hl [0, 1, 2, 3] rfl, hq⟩
          · skip
            refine kk_case (c := fSg ((M_signMany - 1).toNatClampNeg) = 60) (fun c_11 => ?_) (fun c_11 => ?_)
            · skip
              refine lv_lookup (off := 118) (tgt := 172) hx hb dX8_workOut_54 (by decide) (by rw [c_11]; try rfl) (by decide) ?_
              refine lv_lload_n hx hb dX8_workOut_172 rfl (lv_at hl 2 rfl) ?_
              refine lv_lload_n hx hb dX8_workOut_173 rfl (lv_at hl 1 rfl) ?_
              refine kk_join1 (fun (z0_13 : Int64) (H : Heap) (locs : List Loc) (ls : Array Slot) => z0_13 = (if fVs ((M_valueMany - 1 - 1).toNatClampNeg) < fVs ((M_valueMany - 1).toNatClampNeg) then 1 else 0) ∧ lv_has ls 7 [(5, .long 0), (3, .long (fVs ((M_valueMany - 1).toNatClampNeg))), (1, .long (fVs ((M_valueMany - 1 - 1).toNatClampNeg))), (0, .ref aM)] ∧ kAt G A s [(aM, .inr (8, [.ref rM_now, .ref rM_kept, .ref rM_isKept, .ref rM_refused, .int M_at, .int M_fault, .ref aVs, .int (M_valueMany - 1), .ref aSg, .int (M_signMany - 1), .long M_tells, .int M_way, .int M_wish, .long M_moreTick, .long M_moreForce, .int M_runTurns, .long M_runFirst, .long M_runLast, .ref rM_was, .long M_peak, .long M_beside, .int M_besideAt])), (aVs, .inl (cVs, 64, .inr (.inl fVs))), (aSg, .inl (cSg, 128, .inl fSg))] H locs) 183 (fun z0_13 => [.long z0_13]) (fun z0_13 H locs ls hv => ?_) (fun J_14 => ?_)
              · skip
                obtain ⟨rfl, hl, hq⟩ := hv
                refine lv_lstore (lv' := [(5, .long (if fVs ((M_valueMany - 1 - 1).toNatClampNeg) < fVs ((M_valueMany - 1).toNatClampNeg) then 1 else 0)), (3, .long (fVs ((M_valueMany - 1).toNatClampNeg))), (1, .long (fVs ((M_valueMany - 1 - 1).toNatClampNeg))), (0, .ref aM)]) hx hb dX8_workOut_183 hl (by decide) rfl (fun ls hl => ?_)
                refine lv_goto (tgt := 259) hx hb dX8_workOut_185 (by decide) ?_
                exact J_2 (if fVs ((M_valueMany - 1 - 1).toNatClampNeg) < fVs ((M_valueMany - 1).toNatClampNeg) then 1 else 0) _ _ _ ⟨((if_neg c_3).trans ((if_neg c_8).trans ((if_neg c_9).trans ((if_neg c_10).trans (if_pos c_11))))).symm, lv_sub hl [0, 1, 2, 3] rfl, hq⟩
              · skip
                refine kk_lc_ge (tgt := 182) hx hb dX8_workOut_174 dX8_workOut_175 (by decide) (fun c_12 => ?_) (fun c_12 => ?_)
                · skip
                  refine lv_lconst (v := 0) hx hb dX8_workOut_182 (by decide) ?_
                  exact J_14 0 _ _ _ ⟨(if_neg c_12).symm, lv_sub hl [0, 1, 2, 3] rfl, hq⟩
                · skip
                  refine lv_lconst (v := 1) hx hb dX8_workOut_178 (by decide) ?_
                  refine lv_goto (tgt := 183) hx hb dX8_workOut_179 (by decide) ?_
                  exact J_14 1 _ _ _ ⟨(if_pos c_12).symm, lv_sub hl [0, 1, 2, 3] rfl, hq⟩
            · skip
              refine kk_case (c := fSg ((M_signMany - 1).toNatClampNeg) = 61) (fun c_15 => ?_) (fun c_15 => ?_)
              · skip
                refine lv_lookup (off := 150) (tgt := 204) hx hb dX8_workOut_54 (by decide) (by rw [c_15]; try rfl) (by decide) ?_
                refine lv_lload_n hx hb dX8_workOut_204 rfl (lv_at hl 2 rfl) ?_
                refine lv_lload_n hx hb dX8_workOut_205 rfl (lv_at hl 1 rfl) ?_
                refine kk_join1 (fun (z0_17 : Int64) (H : Heap) (locs : List Loc) (ls : Array Slot) => z0_17 = (if fVs ((M_valueMany - 1 - 1).toNatClampNeg) = fVs ((M_valueMany - 1).toNatClampNeg) then 1 else 0) ∧ lv_has ls 7 [(5, .long 0), (3, .long (fVs ((M_valueMany - 1).toNatClampNeg))), (1, .long (fVs ((M_valueMany - 1 - 1).toNatClampNeg))), (0, .ref aM)] ∧ kAt G A s [(aM, .inr (8, [.ref rM_now, .ref rM_kept, .ref rM_isKept, .ref rM_refused, .int M_at, .int M_fault, .ref aVs, .int (M_valueMany - 1), .ref aSg, .int (M_signMany - 1), .long M_tells, .int M_way, .int M_wish, .long M_moreTick, .long M_moreForce, .int M_runTurns, .long M_runFirst, .long M_runLast, .ref rM_was, .long M_peak, .long M_beside, .int M_besideAt])), (aVs, .inl (cVs, 64, .inr (.inl fVs))), (aSg, .inl (cSg, 128, .inl fSg))] H locs) 215 (fun z0_17 => [.long z0_17]) (fun z0_17 H locs ls hv => ?_) (fun J_18 => ?_)
                · skip
                  obtain ⟨rfl, hl, hq⟩ := hv
                  refine lv_lstore (lv' := [(5, .long (if fVs ((M_valueMany - 1 - 1).toNatClampNeg) = fVs ((M_valueMany - 1).toNatClampNeg) then 1 else 0)), (3, .long (fVs ((M_valueMany - 1).toNatClampNeg))), (1, .long (fVs ((M_valueMany - 1 - 1).toNatClampNeg))), (0, .ref aM)]) hx hb dX8_workOut_215 hl (by decide) rfl (fun ls hl => ?_)
                  refine lv_goto (tgt := 259) hx hb dX8_workOut_217 (by decide) ?_
                  exact J_2 (if fVs ((M_valueMany - 1 - 1).toNatClampNeg) = fVs ((M_valueMany - 1).toNatClampNeg) then 1 else 0) _ _ _ ⟨((if_neg c_3).trans ((if_neg c_8).trans ((if_neg c_9).trans ((if_neg c_10).trans ((if_neg c_11).trans (if_pos c_15)))))).symm, lv_sub hl [0, 1, 2, 3] rfl, hq⟩
                · skip
                  refine kk_lc_ne (tgt := 214) hx hb dX8_workOut_206 dX8_workOut_207 (by decide) (fun c_16 => ?_) (fun c_16 => ?_)
                  · skip
                    refine lv_lconst (v := 0) hx hb dX8_workOut_214 (by decide) ?_
                    exact J_18 0 _ _ _ ⟨(if_neg c_16).symm, lv_sub hl [0, 1, 2, 3] rfl, hq⟩
                  · skip
                    refine lv_lconst (v := 1) hx hb dX8_workOut_210 (by decide) ?_
                    refine lv_goto (tgt := 215) hx hb dX8_workOut_211 (by decide) ?_
                    exact J_18 1 _ _ _ ⟨(if_pos c_16).symm, lv_sub hl [0, 1, 2, 3] rfl, hq⟩
              · skip
                refine kk_case (c := fSg ((M_signMany - 1).toNatClampNeg) = 62) (fun c_19 => ?_) (fun c_19 => ?_)
                · skip
                  refine lv_lookup (off := 134) (tgt := 188) hx hb dX8_workOut_54 (by decide) (by rw [c_19]; try rfl) (by decide) ?_
                  refine lv_lload_n hx hb dX8_workOut_188 rfl (lv_at hl 2 rfl) ?_
                  refine lv_lload_n hx hb dX8_workOut_189 rfl (lv_at hl 1 rfl) ?_
                  refine kk_join1 (fun (z0_21 : Int64) (H : Heap) (locs : List Loc) (ls : Array Slot) => z0_21 = (if fVs ((M_valueMany - 1).toNatClampNeg) < fVs ((M_valueMany - 1 - 1).toNatClampNeg) then 1 else 0) ∧ lv_has ls 7 [(5, .long 0), (3, .long (fVs ((M_valueMany - 1).toNatClampNeg))), (1, .long (fVs ((M_valueMany - 1 - 1).toNatClampNeg))), (0, .ref aM)] ∧ kAt G A s [(aM, .inr (8, [.ref rM_now, .ref rM_kept, .ref rM_isKept, .ref rM_refused, .int M_at, .int M_fault, .ref aVs, .int (M_valueMany - 1), .ref aSg, .int (M_signMany - 1), .long M_tells, .int M_way, .int M_wish, .long M_moreTick, .long M_moreForce, .int M_runTurns, .long M_runFirst, .long M_runLast, .ref rM_was, .long M_peak, .long M_beside, .int M_besideAt])), (aVs, .inl (cVs, 64, .inr (.inl fVs))), (aSg, .inl (cSg, 128, .inl fSg))] H locs) 199 (fun z0_21 => [.long z0_21]) (fun z0_21 H locs ls hv => ?_) (fun J_22 => ?_)
                  · skip
                    obtain ⟨rfl, hl, hq⟩ := hv
                    refine lv_lstore (lv' := [(5, .long (if fVs ((M_valueMany - 1).toNatClampNeg) < fVs ((M_valueMany - 1 - 1).toNatClampNeg) then 1 else 0)), (3, .long (fVs ((M_valueMany - 1).toNatClampNeg))), (1, .long (fVs ((M_valueMany - 1 - 1).toNatClampNeg))), (0, .ref aM)]) hx hb dX8_workOut_199 hl (by decide) rfl (fun ls hl => ?_)
                    refine lv_goto (tgt := 259) hx hb dX8_workOut_201 (by decide) ?_
                    exact J_2 (if fVs ((M_valueMany - 1).toNatClampNeg) < fVs ((M_valueMany - 1 - 1).toNatClampNeg) then 1 else 0) _ _ _ ⟨((if_neg c_3).trans ((if_neg c_8).trans ((if_neg c_9).trans ((if_neg c_10).trans ((if_neg c_11).trans ((if_neg c_15).trans (if_pos c_19))))))).symm, lv_sub hl [0, 1, 2, 3] rfl, hq⟩
                  · skip
                    refine kk_lc_le (tgt := 198) hx hb dX8_workOut_190 dX8_workOut_191 (by decide) (fun c_20 => ?_) (fun c_20 => ?_)
                    · skip
                      refine lv_lconst (v := 0) hx hb dX8_workOut_198 (by decide) ?_
                      exact J_22 0 _ _ _ ⟨(if_neg c_20).symm, lv_sub hl [0, 1, 2, 3] rfl, hq⟩
                    · skip
                      refine lv_lconst (v := 1) hx hb dX8_workOut_194 (by decide) ?_
                      refine lv_goto (tgt := 199) hx hb dX8_workOut_195 (by decide) ?_
                      exact J_22 1 _ _ _ ⟨(if_pos c_20).symm, lv_sub hl [0, 1, 2, 3] rfl, hq⟩
                · skip
                  refine kk_case (c := fSg ((M_signMany - 1).toNatClampNeg) = 124) (fun c_23 => ?_) (fun c_23 => ?_)
                  · skip
                    refine lv_lookup (off := 74) (tgt := 128) hx hb dX8_workOut_54 (by decide) (by rw [c_23]; try rfl) (by decide) ?_
                    refine lv_lload_n hx hb dX8_workOut_128 rfl (lv_at hl 2 rfl) ?_
                    refine lv_lconst (v := 0) hx hb dX8_workOut_129 (by decide) ?_
                    refine kk_join1 (fun (z0_25 : Int64) (H : Heap) (locs : List Loc) (ls : Array Slot) => z0_25 = (if fVs ((M_valueMany - 1 - 1).toNatClampNeg) = 0 then if fVs ((M_valueMany - 1).toNatClampNeg) = 0 then 0 else 1 else 1) ∧ lv_has ls 7 [(5, .long 0), (3, .long (fVs ((M_valueMany - 1).toNatClampNeg))), (1, .long (fVs ((M_valueMany - 1 - 1).toNatClampNeg))), (0, .ref aM)] ∧ kAt G A s [(aM, .inr (8, [.ref rM_now, .ref rM_kept, .ref rM_isKept, .ref rM_refused, .int M_at, .int M_fault, .ref aVs, .int (M_valueMany - 1), .ref aSg, .int (M_signMany - 1), .long M_tells, .int M_way, .int M_wish, .long M_moreTick, .long M_moreForce, .int M_runTurns, .long M_runFirst, .long M_runLast, .ref rM_was, .long M_peak, .long M_beside, .int M_besideAt])), (aVs, .inl (cVs, 64, .inr (.inl fVs))), (aSg, .inl (cSg, 128, .inl fSg))] H locs) 145 (fun z0_25 => [.long z0_25]) (fun z0_25 H locs ls hv => ?_) (fun J_26 => ?_)
                    · skip
                      obtain ⟨rfl, hl, hq⟩ := hv
                      refine lv_lstore (lv' := [(5, .long (if fVs ((M_valueMany - 1 - 1).toNatClampNeg) = 0 then if fVs ((M_valueMany - 1).toNatClampNeg) = 0 then 0 else 1 else 1)), (3, .long (fVs ((M_valueMany - 1).toNatClampNeg))), (1, .long (fVs ((M_valueMany - 1 - 1).toNatClampNeg))), (0, .ref aM)]) hx hb dX8_workOut_145 hl (by decide) rfl (fun ls hl => ?_)
                      refine lv_goto (tgt := 259) hx hb dX8_workOut_147 (by decide) ?_
                      exact J_2 (if fVs ((M_valueMany - 1 - 1).toNatClampNeg) = 0 then if fVs ((M_valueMany - 1).toNatClampNeg) = 0 then 0 else 1 else 1) _ _ _ ⟨((if_neg c_3).trans ((if_neg c_8).trans ((if_neg c_9).trans ((if_neg c_10).trans ((if_neg c_11).trans ((if_neg c_15).trans ((if_neg c_19).trans (if_pos c_23)))))))).symm, lv_sub hl [0, 1, 2, 3] rfl, hq⟩
                    · skip
                      refine kk_lc_ne (tgt := 140) hx hb dX8_workOut_130 dX8_workOut_131 (by decide) (fun c_24 => ?_) (fun c_24 => ?_)
                      · skip
                        refine lv_lconst (v := 1) hx hb dX8_workOut_140 (by decide) ?_
                        refine lv_goto (tgt := 145) hx hb dX8_workOut_141 (by decide) ?_
                        exact J_26 1 _ _ _ ⟨(if_neg c_24).symm, lv_sub hl [0, 1, 2, 3] rfl, hq⟩
                      · skip
                        refine lv_lload_n hx hb dX8_workOut_134 rfl (lv_at hl 1 rfl) ?_
                        refine lv_lconst (v := 0) hx hb dX8_workOut_135 (by decide) ?_
                        refine kk_lc_eq (tgt := 144) hx hb dX8_workOut_136 dX8_workOut_137 (by decide) (fun c_27 => ?_) (fun c_27 => ?_)
                        · skip
                          refine lv_lconst (v := 0) hx hb dX8_workOut_144 (by decide) ?_
                          exact J_26 0 _ _ _ ⟨((if_pos c_24).trans (if_pos c_27)).symm, lv_sub hl [0, 1, 2, 3] rfl, hq⟩
                        · skip
                          refine lv_lconst (v := 1) hx hb dX8_workOut_140 (by decide) ?_
                          refine lv_goto (tgt := 145) hx hb dX8_workOut_141 (by decide) ?_
                          exact J_26 1 _ _ _ ⟨((if_pos c_24).trans (if_neg c_27)).symm, lv_sub hl [0, 1, 2, 3] rfl, hq⟩
                  · skip
                    refine lv_lookup (off := 190) (tgt := 244) hx hb dX8_workOut_54 (by decide) (kk_lk (kk_ne (k := 38) c_3 (by decide)) (kk_lk (kk_ne (k := 42) c_8 (by decide)) (kk_lk (kk_ne (k := 43) c_9 (by decide)) (kk_lk (kk_ne (k := 45) c_10 (by decide)) (kk_lk (kk_ne (k := 60) c_11 (by decide)) (kk_lk (kk_ne (k := 61) c_15 (by decide)) (kk_lk (kk_ne (k := 62) c_19 (by decide)) (kk_lk (kk_ne (k := 124) c_23 (by decide)) rfl)))))))) (by decide) ?_
                    refine lv_lload_n hx hb dX8_workOut_244 rfl (lv_at hl 1 rfl) ?_
                    refine lv_lconst (v := 0) hx hb dX8_workOut_245 (by decide) ?_
                    refine kk_join1 (fun (z0_29 : Int64) (H : Heap) (locs : List Loc) (ls : Array Slot) => z0_29 = (if fVs ((M_valueMany - 1).toNatClampNeg) = 0 then 0 else (fVs ((M_valueMany - 1 - 1).toNatClampNeg)) / (fVs ((M_valueMany - 1).toNatClampNeg))) ∧ lv_has ls 7 [(5, .long 0), (3, .long (fVs ((M_valueMany - 1).toNatClampNeg))), (1, .long (fVs ((M_valueMany - 1 - 1).toNatClampNeg))), (0, .ref aM)] ∧ kAt G A s [(aM, .inr (8, [.ref rM_now, .ref rM_kept, .ref rM_isKept, .ref rM_refused, .int M_at, .int M_fault, .ref aVs, .int (M_valueMany - 1), .ref aSg, .int (M_signMany - 1), .long M_tells, .int M_way, .int M_wish, .long M_moreTick, .long M_moreForce, .int M_runTurns, .long M_runFirst, .long M_runLast, .ref rM_was, .long M_peak, .long M_beside, .int M_besideAt])), (aVs, .inl (cVs, 64, .inr (.inl fVs))), (aSg, .inl (cSg, 128, .inl fSg))] H locs) 257 (fun z0_29 => [.long z0_29]) (fun z0_29 H locs ls hv => ?_) (fun J_30 => ?_)
                    · skip
                      obtain ⟨rfl, hl, hq⟩ := hv
                      refine lv_lstore (lv' := [(5, .long (if fVs ((M_valueMany - 1).toNatClampNeg) = 0 then 0 else (fVs ((M_valueMany - 1 - 1).toNatClampNeg)) / (fVs ((M_valueMany - 1).toNatClampNeg)))), (3, .long (fVs ((M_valueMany - 1).toNatClampNeg))), (1, .long (fVs ((M_valueMany - 1 - 1).toNatClampNeg))), (0, .ref aM)]) hx hb dX8_workOut_257 hl (by decide) rfl (fun ls hl => ?_)
                      exact J_2 (if fVs ((M_valueMany - 1).toNatClampNeg) = 0 then 0 else (fVs ((M_valueMany - 1 - 1).toNatClampNeg)) / (fVs ((M_valueMany - 1).toNatClampNeg))) _ _ _ ⟨((if_neg c_3).trans ((if_neg c_8).trans ((if_neg c_9).trans ((if_neg c_10).trans ((if_neg c_11).trans ((if_neg c_15).trans ((if_neg c_19).trans (if_neg c_23)))))))).symm, lv_sub hl [0, 1, 2, 3] rfl, hq⟩
                    · skip
                      refine kk_lc_ne (tgt := 254) hx hb dX8_workOut_246 dX8_workOut_247 (by decide) (fun c_28 => ?_) (fun c_28 => ?_)
                      · skip
                        refine lv_lload_n hx hb dX8_workOut_254 rfl (lv_at hl 2 rfl) ?_
                        refine lv_lload_n hx hb dX8_workOut_255 rfl (lv_at hl 1 rfl) ?_
                        refine lv_ldiv hx hb dX8_workOut_256 c_28 ?_
                        exact J_30 ((fVs ((M_valueMany - 1 - 1).toNatClampNeg)) / (fVs ((M_valueMany - 1).toNatClampNeg))) _ _ _ ⟨(if_neg c_28).symm, lv_sub hl [0, 1, 2, 3] rfl, hq⟩
                      · skip
                        refine lv_lconst (v := 0) hx hb dX8_workOut_250 (by decide) ?_
                        refine lv_goto (tgt := 257) hx hb dX8_workOut_251 (by decide) ?_
                        exact J_30 0 _ _ _ ⟨(if_pos c_28).symm, lv_sub hl [0, 1, 2, 3] rfl, hq⟩
