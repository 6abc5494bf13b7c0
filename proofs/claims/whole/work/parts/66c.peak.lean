theorem hd_X8_run : yX8_run.cls = RX8 ∧ yX8_run.cls ≠ "java/lang/invoke/MethodHandle" ∧ yX8_run.cls ≠ "java/lang/invoke/VarHandle" ∧ (parseMethodDescriptor yX8_run.desc).map (fun d => d.parameters.length) = some 1 := by decide +kernel
def fX8_peak (p1 : Int32) (M_at : Int32) (M_fault : Int32) (M_valueMany : Int32) (M_signMany : Int32) (M_tells : Int64) (M_way : Int32) (M_wish : Int32) (M_moreTick : Int64) (M_moreForce : Int64) (M_runTurns : Int32) (M_runFirst : Int64) (M_runLast : Int64) (M_peak : Int64) (M_beside : Int64) (M_besideAt : Int32) (fNw : Nat → Int64) (fVs : Nat → Int64) (fSg : Nat → Int32) (fWs : Nat → Int64) (fRf : Nat → Int32) : Int32 × Int32 × Int32 × Int32 × Int32 × Int64 × Int32 × Int32 × Int64 × Int64 × Int64 × Int64 × Int32 × (Nat → Int64) × (Nat → Int64) × (Nat → Int32) × (Nat → Int64) × (Nat → Int32) :=
  let r_2 : Int32 := fX8_isRun p1
  if r_2 = 0 then (
    let r_9 : Int32 := (fX8_bad (-2) fRf).1
    let u_8 : Nat → Int32 := (fX8_bad (-2) fRf).2
    (r_9, M_at, M_fault, M_valueMany, M_signMany, M_tells, M_way, M_runTurns, M_runFirst, M_runLast, M_peak, M_beside, M_besideAt, fNw, fVs, fSg, fWs, u_8))
  else (
    let u_5 : Int32 × Int32 × Int32 × Int32 × Int64 × Int32 × Int32 × Int64 × Int64 × Int64 × Int64 × Int32 × (Nat → Int64) × (Nat → Int64) × (Nat → Int32) × (Nat → Int64) := fX8_run p1 M_at M_fault M_valueMany M_signMany M_tells M_way M_wish M_moreTick M_moreForce fNw fVs fSg fWs
    (u_5.2.2.2.2.2.2.2.2.2.1.toInt32, u_5.1, u_5.2.1, u_5.2.2.1, u_5.2.2.2.1, u_5.2.2.2.2.1, u_5.2.2.2.2.2.1, u_5.2.2.2.2.2.2.1, u_5.2.2.2.2.2.2.2.1, u_5.2.2.2.2.2.2.2.2.1, u_5.2.2.2.2.2.2.2.2.2.1, u_5.2.2.2.2.2.2.2.2.2.2.1, u_5.2.2.2.2.2.2.2.2.2.2.2.1, u_5.2.2.2.2.2.2.2.2.2.2.2.2.1, u_5.2.2.2.2.2.2.2.2.2.2.2.2.2.1, u_5.2.2.2.2.2.2.2.2.2.2.2.2.2.2.1, u_5.2.2.2.2.2.2.2.2.2.2.2.2.2.2.2, fRf))

set_option maxHeartbeats 4000000 in
set_option maxRecDepth 100000 in
theorem c_X8_peak (l : Launch) (G : va_G) (aM aNw aVs aSg aWs aRf rM_kept rM_isKept : Nat) (cNw cVs cSg cWs cRf : ClassId) (p1 : Int32) (M_at : Int32) (M_fault : Int32) (M_valueMany : Int32) (M_signMany : Int32) (M_tells : Int64) (M_way : Int32) (M_wish : Int32) (M_moreTick : Int64) (M_moreForce : Int64) (M_runTurns : Int32) (M_runFirst : Int64) (M_runLast : Int64) (M_peak : Int64) (M_beside : Int64) (M_besideAt : Int32) (fNw : Nat → Int64) (fVs : Nat → Int64) (fSg : Nat → Int32) (fWs : Nat → Int64) (fRf : Nat → Int32) (wn : WN_ fNw) (w0 : M_way = 0) (tb : (fNw 6).toInt ≤ 1000000000) : kCi l yX8_peak (Cond.code yX8_peak cX8_peak 2 (some .int) :: wsL_law) ({ frames := 7, cells := 0, slots := 0, locals := 170 }) G [(cNw, .long), (cVs, .long), (cSg, .int), (cWs, .long), (cRf, .int)] [.ref aM, .int p1] [(aM, .inr (8, [.ref aNw, .ref rM_kept, .ref rM_isKept, .ref aRf, .int M_at, .int M_fault, .ref aVs, .int M_valueMany, .ref aSg, .int M_signMany, .long M_tells, .int M_way, .int M_wish, .long M_moreTick, .long M_moreForce, .int M_runTurns, .long M_runFirst, .long M_runLast, .ref aWs, .long M_peak, .long M_beside, .int M_besideAt])), (aNw, .inl (cNw, 139, .inr (.inl fNw))), (aVs, .inl (cVs, 64, .inr (.inl fVs))), (aSg, .inl (cSg, 128, .inl fSg)), (aWs, .inl (cWs, 53, .inr (.inl fWs))), (aRf, .inl (cRf, 3, .inl fRf))] (fun (r : Int32) (u : Int32 × Int32 × Int32 × Int32 × Int64 × Int32 × Int32 × Int64 × Int64 × Int64 × Int64 × Int32 × (Nat → Int64) × (Nat → Int64) × (Nat → Int32) × (Nat → Int64) × (Nat → Int32)) => r = (fX8_peak p1 M_at M_fault M_valueMany M_signMany M_tells M_way M_wish M_moreTick M_moreForce M_runTurns M_runFirst M_runLast M_peak M_beside M_besideAt fNw fVs fSg fWs fRf).1 ∧ u = (fX8_peak p1 M_at M_fault M_valueMany M_signMany M_tells M_way M_wish M_moreTick M_moreForce M_runTurns M_runFirst M_runLast M_peak M_beside M_besideAt fNw fVs fSg fWs fRf).2 ∧ (u.2.2.2.2.2.2.2.2.2.2.2.2.1 = fNw) ∧ ((u.2.2.2.2.2.1 : Int32) = 0)) (fun (u : Int32 × Int32 × Int32 × Int32 × Int64 × Int32 × Int32 × Int64 × Int64 × Int64 × Int64 × Int32 × (Nat → Int64) × (Nat → Int64) × (Nat → Int32) × (Nat → Int64) × (Nat → Int32)) => [(aM, .inr (8, [.ref aNw, .ref rM_kept, .ref rM_isKept, .ref aRf, .int u.1, .int u.2.1, .ref aVs, .int u.2.2.1, .ref aSg, .int u.2.2.2.1, .long u.2.2.2.2.1, .int u.2.2.2.2.2.1, .int M_wish, .long M_moreTick, .long M_moreForce, .int u.2.2.2.2.2.2.1, .long u.2.2.2.2.2.2.2.1, .long u.2.2.2.2.2.2.2.2.1, .ref aWs, .long u.2.2.2.2.2.2.2.2.2.1, .long u.2.2.2.2.2.2.2.2.2.2.1, .int u.2.2.2.2.2.2.2.2.2.2.2.1])), (aNw, .inl (cNw, 139, .inr (.inl u.2.2.2.2.2.2.2.2.2.2.2.2.1))), (aVs, .inl (cVs, 64, .inr (.inl u.2.2.2.2.2.2.2.2.2.2.2.2.2.1))), (aSg, .inl (cSg, 128, .inl u.2.2.2.2.2.2.2.2.2.2.2.2.2.2.1)), (aWs, .inl (cWs, 53, .inr (.inl u.2.2.2.2.2.2.2.2.2.2.2.2.2.2.2.1))), (aRf, .inl (cRf, 3, .inl u.2.2.2.2.2.2.2.2.2.2.2.2.2.2.2.2))]) := by
  intro sz
  refine Met.ofW (cc := cX8_peak) (maxL := 2) (ret := (some .int)) (by decide) rfl ?_
  intro p e s m args below meth c s₁ B hml hv
  obtain ⟨rfl, hv⟩ := hv
  obtain ⟨rfl, hK, hq, hA⟩ := kk_begin hv
  have hx := B.exec
  have hb := B.bytes
  have hr := B.returns
  have hts := atoms_spec (ws := (Cond.code yX8_peak cX8_peak 2 (some .int) :: wsL_law)) B.pre
  have hown : s.vm.findClass RX8 = some m.cls := findClass_of_methodNamed B.named
  have hlocks := B.notSynchronized
  have hsb : ∀ w ∈ wsL_law, w ∈ (Cond.code yX8_peak cX8_peak 2 (some .int) :: wsL_law) := fun _ h => List.mem_cons_of_mem _ h
  generalize va_A [(aM, .inr (8, [.ref aNw, .ref rM_kept, .ref rM_isKept, .ref aRf, .int M_at, .int M_fault, .ref aVs, .int M_valueMany, .ref aSg, .int M_signMany, .long M_tells, .int M_way, .int M_wish, .long M_moreTick, .long M_moreForce, .int M_runTurns, .long M_runFirst, .long M_runLast, .ref aWs, .long M_peak, .long M_beside, .int M_besideAt])), (aNw, .inl (cNw, 139, .inr (.inl fNw))), (aVs, .inl (cVs, 64, .inr (.inl fVs))), (aSg, .inl (cSg, 128, .inl fSg)), (aWs, .inl (cWs, 53, .inr (.inl fWs))), (aRf, .inl (cRf, 3, .inl fRf))] s.heap.size = A at hq hA ⊢
  have iX8 : ∀ w ∈ u_ws RX8 TX8 22, w ∈ (Cond.code yX8_peak cX8_peak 2 (some .int) :: wsL_law) := fun w h => hsb w (bin_X8 w h)
  have lk0_ := hts _ (hsb _ wd_626)
  have hl := lv_entry ([.ref aM, .int p1]) (n := 2) (Nat.le_of_ble_eq_true rfl)
  rw [lg_entry_eq]
  generalize (lg_sl ([.ref aM, .int p1]) ++ List.replicate (2 - (lg_sl ([.ref aM, .int p1])).length) Slot.unset).toArray = ls at hl ⊢
  have hl : lv_has ls 2 [(0, .ref aM), (1, .int p1)] := hl
  refine lv_iload_n hx hb dX8_peak_0 rfl (lv_at hl 1 rfl) ?_
  refine kk_Si (As := [.int p1]) (rest := []) (wr := [(aM, .inr (8, [.ref aNw, .ref rM_kept, .ref rM_isKept, .ref aRf, .int M_at, .int M_fault, .ref aVs, .int M_valueMany, .ref aSg, .int M_signMany, .long M_tells, .int M_way, .int M_wish, .long M_moreTick, .long M_moreForce, .int M_runTurns, .long M_runFirst, .long M_runLast, .ref aWs, .long M_peak, .long M_beside, .int M_besideAt])), (aNw, .inl (cNw, 139, .inr (.inl fNw))), (aVs, .inl (cVs, 64, .inr (.inl fVs))), (aSg, .inl (cSg, 128, .inl fSg)), (aWs, .inl (cWs, 53, .inr (.inl fWs))), (aRf, .inl (cRf, 3, .inl fRf))]) ⟨hx, hb, hml, hown, hts⟩ (c_X8_isRun l G p1) (kk_cwS 1 hts hsb wd_536 wd_537 wd_5 wd_538 rfl rfl hd_X8_isRun ⟨Nat.le_of_ble_eq_true rfl, Nat.le_of_ble_eq_true rfl⟩) hA hK hq [] [0, 1, 2, 3, 4, 5] [] rfl rfl rfl (by decide) (by decide) (by decide) rfl hl.1 rfl (Nat.le_of_ble_eq_true rfl) dX8_peak_1 ⟨Nat.zero_le _, Nat.zero_le _⟩ (fun r_2 u_1 H locs h_3 hq => ?_)
  obtain ⟨er_2, zr_2⟩ := h_3
  have hq : kAt G A s [(aM, .inr (8, [.ref aNw, .ref rM_kept, .ref rM_isKept, .ref aRf, .int M_at, .int M_fault, .ref aVs, .int M_valueMany, .ref aSg, .int M_signMany, .long M_tells, .int M_way, .int M_wish, .long M_moreTick, .long M_moreForce, .int M_runTurns, .long M_runFirst, .long M_runLast, .ref aWs, .long M_peak, .long M_beside, .int M_besideAt])), (aNw, .inl (cNw, 139, .inr (.inl fNw))), (aVs, .inl (cVs, 64, .inr (.inl fVs))), (aSg, .inl (cSg, 128, .inl fSg)), (aWs, .inl (cWs, 53, .inr (.inl fWs))), (aRf, .inl (cRf, 3, .inl fRf))] H locs := hq
  have hrun := er_2
  refine lv_if_ne (tgt := 14) hx hb dX8_peak_4 (by decide) (fun c_4 => ?_) (fun c_4 => ?_)
  · skip
    have hn := run8_le (hrun ▸ c_4)
    refine lv_aload_n hx hb dX8_peak_14 rfl (lv_at hl 0 rfl) ?_
    refine lv_iload_n hx hb dX8_peak_15 rfl (lv_at hl 1 rfl) ?_
    refine kk_Vv (As := [.int p1]) (rest := []) (wr := [(aRf, .inl (cRf, 3, .inl fRf))]) ⟨hx, hb, hml, hown, hts⟩ (c_X8_run l G aM aNw aVs aSg aWs rM_kept rM_isKept aRf cNw cVs cSg cWs p1 M_at M_fault M_valueMany M_signMany M_tells M_way M_wish M_moreTick M_moreForce M_runTurns M_runFirst M_runLast M_peak M_beside M_besideAt fNw fVs fSg fWs wn (wy_wh w0) tb hn.2) (kk_cwV 1 hts hsb wd_627 wd_628 wd_629 wd_5 wd_630 rfl rfl hd_X8_run ⟨Nat.le_of_ble_eq_true rfl, Nat.le_of_ble_eq_true rfl⟩) hA hK hq [0, 1, 2, 3, 4] [5] [0, 1, 2, 3] rfl rfl rfl (by decide) (by decide) (by decide) 0 8 rfl rfl rfl rfl hl.1 rfl (Nat.le_of_ble_eq_true rfl) dX8_peak_16 ⟨Nat.zero_le _, Nat.zero_le _⟩ (fun u_5 H locs h_7 hq => ?_)
    obtain ⟨eu_5, nw_u_5, wy_u_5⟩ := h_7
    have hq : kAt G A s [(aRf, .inl (cRf, 3, .inl fRf)), (aM, .inr (8, [.ref aNw, .ref rM_kept, .ref rM_isKept, .ref aRf, .int u_5.1, .int u_5.2.1, .ref aVs, .int u_5.2.2.1, .ref aSg, .int u_5.2.2.2.1, .long u_5.2.2.2.2.1, .int u_5.2.2.2.2.2.1, .int M_wish, .long M_moreTick, .long M_moreForce, .int u_5.2.2.2.2.2.2.1, .long u_5.2.2.2.2.2.2.2.1, .long u_5.2.2.2.2.2.2.2.2.1, .ref aWs, .long u_5.2.2.2.2.2.2.2.2.2.1, .long u_5.2.2.2.2.2.2.2.2.2.2.1, .int u_5.2.2.2.2.2.2.2.2.2.2.2.1])), (aNw, .inl (cNw, 139, .inr (.inl u_5.2.2.2.2.2.2.2.2.2.2.2.2.1))), (aVs, .inl (cVs, 64, .inr (.inl u_5.2.2.2.2.2.2.2.2.2.2.2.2.2.1))), (aSg, .inl (cSg, 128, .inl u_5.2.2.2.2.2.2.2.2.2.2.2.2.2.2.1)), (aWs, .inl (cWs, 53, .inr (.inl u_5.2.2.2.2.2.2.2.2.2.2.2.2.2.2.2)))] H locs := hq
    refine lv_aload_n hx hb dX8_peak_19 rfl (lv_at hl 0 rfl) ?_
    refine kk_get (ci := 8) (v := .long u_5.2.2.2.2.2.2.2.2.2.1) (C := RX8) (T := TX8) (N := 22) hx hb hts iX8 hown hK hq 1 rfl rfl 19 (by decide) lk0_ rfl dX8_peak_20 ?_
    refine lv_l2i hx hb dX8_peak_23 rfl ?_
    have hf : ((u_5.2.2.2.2.2.2.2.2.2.1.toInt32, u_5.1, u_5.2.1, u_5.2.2.1, u_5.2.2.2.1, u_5.2.2.2.2.1, u_5.2.2.2.2.2.1, u_5.2.2.2.2.2.2.1, u_5.2.2.2.2.2.2.2.1, u_5.2.2.2.2.2.2.2.2.1, u_5.2.2.2.2.2.2.2.2.2.1, u_5.2.2.2.2.2.2.2.2.2.2.1, u_5.2.2.2.2.2.2.2.2.2.2.2.1, u_5.2.2.2.2.2.2.2.2.2.2.2.2.1, u_5.2.2.2.2.2.2.2.2.2.2.2.2.2.1, u_5.2.2.2.2.2.2.2.2.2.2.2.2.2.2.1, u_5.2.2.2.2.2.2.2.2.2.2.2.2.2.2.2, fRf) : Int32 × Int32 × Int32 × Int32 × Int32 × Int64 × Int32 × Int32 × Int64 × Int64 × Int64 × Int64 × Int32 × (Nat → Int64) × (Nat → Int64) × (Nat → Int32) × (Nat → Int64) × (Nat → Int32)) = fX8_peak p1 M_at M_fault M_valueMany M_signMany M_tells M_way M_wish M_moreTick M_moreForce M_runTurns M_runFirst M_runLast M_peak M_beside M_besideAt fNw fVs fSg fWs fRf := by
      exact ((congrArg (fun (r_2 : Int32) => ((if r_2 = 0 then (
    let r_9 : Int32 := (fX8_bad (-2) fRf).1
    let u_8 : Nat → Int32 := (fX8_bad (-2) fRf).2
    (r_9, M_at, M_fault, M_valueMany, M_signMany, M_tells, M_way, M_runTurns, M_runFirst, M_runLast, M_peak, M_beside, M_besideAt, fNw, fVs, fSg, fWs, u_8))
  else (
    let u_5 : Int32 × Int32 × Int32 × Int32 × Int64 × Int32 × Int32 × Int64 × Int64 × Int64 × Int64 × Int32 × (Nat → Int64) × (Nat → Int64) × (Nat → Int32) × (Nat → Int64) := fX8_run p1 M_at M_fault M_valueMany M_signMany M_tells M_way M_wish M_moreTick M_moreForce fNw fVs fSg fWs
    (u_5.2.2.2.2.2.2.2.2.2.1.toInt32, u_5.1, u_5.2.1, u_5.2.2.1, u_5.2.2.2.1, u_5.2.2.2.2.1, u_5.2.2.2.2.2.1, u_5.2.2.2.2.2.2.1, u_5.2.2.2.2.2.2.2.1, u_5.2.2.2.2.2.2.2.2.1, u_5.2.2.2.2.2.2.2.2.2.1, u_5.2.2.2.2.2.2.2.2.2.2.1, u_5.2.2.2.2.2.2.2.2.2.2.2.1, u_5.2.2.2.2.2.2.2.2.2.2.2.2.1, u_5.2.2.2.2.2.2.2.2.2.2.2.2.2.1, u_5.2.2.2.2.2.2.2.2.2.2.2.2.2.2.1, u_5.2.2.2.2.2.2.2.2.2.2.2.2.2.2.2, fRf))) : Int32 × Int32 × Int32 × Int32 × Int32 × Int64 × Int32 × Int32 × Int64 × Int64 × Int64 × Int64 × Int32 × (Nat → Int64) × (Nat → Int64) × (Nat → Int32) × (Nat → Int64) × (Nat → Int32))) er_2.symm).trans ((if_neg c_4).trans ((congrArg (fun (u_5 : Int32 × Int32 × Int32 × Int32 × Int64 × Int32 × Int32 × Int64 × Int64 × Int64 × Int64 × Int32 × (Nat → Int64) × (Nat → Int64) × (Nat → Int32) × (Nat → Int64)) => (((u_5.2.2.2.2.2.2.2.2.2.1.toInt32, u_5.1, u_5.2.1, u_5.2.2.1, u_5.2.2.2.1, u_5.2.2.2.2.1, u_5.2.2.2.2.2.1, u_5.2.2.2.2.2.2.1, u_5.2.2.2.2.2.2.2.1, u_5.2.2.2.2.2.2.2.2.1, u_5.2.2.2.2.2.2.2.2.2.1, u_5.2.2.2.2.2.2.2.2.2.2.1, u_5.2.2.2.2.2.2.2.2.2.2.2.1, u_5.2.2.2.2.2.2.2.2.2.2.2.2.1, u_5.2.2.2.2.2.2.2.2.2.2.2.2.2.1, u_5.2.2.2.2.2.2.2.2.2.2.2.2.2.2.1, u_5.2.2.2.2.2.2.2.2.2.2.2.2.2.2.2, fRf)) : Int32 × Int32 × Int32 × Int32 × Int32 × Int64 × Int32 × Int32 × Int64 × Int64 × Int64 × Int64 × Int32 × (Nat → Int64) × (Nat → Int64) × (Nat → Int32) × (Nat → Int64) × (Nat → Int32))) eu_5.symm)))).symm
    have hf1 := congrArg Prod.fst hf
    have hf2 := congrArg Prod.snd hf
    have en_0 : u_5.2.2.2.2.2.2.2.2.2.2.2.2.1 = fNw := by first | assumption | rfl
    have en_1 : (u_5.2.2.2.2.2.1 : Int32) = 0 := by first | assumption | rfl
    exact kk_ei hx hb hr hlocks hK hq [1, 2, 3, 4, 5, 0] (u_5.1, u_5.2.1, u_5.2.2.1, u_5.2.2.2.1, u_5.2.2.2.2.1, u_5.2.2.2.2.2.1, u_5.2.2.2.2.2.2.1, u_5.2.2.2.2.2.2.2.1, u_5.2.2.2.2.2.2.2.2.1, u_5.2.2.2.2.2.2.2.2.2.1, u_5.2.2.2.2.2.2.2.2.2.2.1, u_5.2.2.2.2.2.2.2.2.2.2.2.1, u_5.2.2.2.2.2.2.2.2.2.2.2.2.1, u_5.2.2.2.2.2.2.2.2.2.2.2.2.2.1, u_5.2.2.2.2.2.2.2.2.2.2.2.2.2.2.1, u_5.2.2.2.2.2.2.2.2.2.2.2.2.2.2.2, fRf) rfl (by decide) dX8_peak_24 ⟨hf1, hf2, en_0, en_1⟩
  · skip
    refine lv_aload_n hx hb dX8_peak_7 rfl (lv_at hl 0 rfl) ?_
    refine lv_bipush (v := -2) hx hb dX8_peak_8 (by decide) ?_
    refine kk_Vi (As := [.int (-2)]) (rest := []) (wr := [(aNw, .inl (cNw, 139, .inr (.inl fNw))), (aVs, .inl (cVs, 64, .inr (.inl fVs))), (aSg, .inl (cSg, 128, .inl fSg)), (aWs, .inl (cWs, 53, .inr (.inl fWs)))]) ⟨hx, hb, hml, hown, hts⟩ (c_X8_bad l G aM aRf aNw rM_kept rM_isKept aVs aSg aWs cRf (-2) M_at M_fault M_valueMany M_signMany M_tells M_way M_wish M_moreTick M_moreForce M_runTurns M_runFirst M_runLast M_peak M_beside M_besideAt fRf) (kk_cwV 1 hts hsb wd_159 wd_160 wd_161 wd_5 wd_162 rfl rfl hd_X8_bad ⟨Nat.le_of_ble_eq_true rfl, Nat.le_of_ble_eq_true rfl⟩) hA hK hq [0, 5] [1, 2, 3, 4] [4] rfl rfl rfl (by decide) (by decide) (by decide) 0 8 rfl rfl rfl rfl hl.1 rfl (Nat.le_of_ble_eq_true rfl) dX8_peak_10 ⟨Nat.zero_le _, Nat.zero_le _⟩ (fun r_9 u_8 H locs h_10 hq => ?_)
    obtain ⟨er_9, eu_8⟩ := h_10
    have hq : kAt G A s [(aNw, .inl (cNw, 139, .inr (.inl fNw))), (aVs, .inl (cVs, 64, .inr (.inl fVs))), (aSg, .inl (cSg, 128, .inl fSg)), (aWs, .inl (cWs, 53, .inr (.inl fWs))), (aM, .inr (8, [.ref aNw, .ref rM_kept, .ref rM_isKept, .ref aRf, .int M_at, .int M_fault, .ref aVs, .int M_valueMany, .ref aSg, .int M_signMany, .long M_tells, .int M_way, .int M_wish, .long M_moreTick, .long M_moreForce, .int M_runTurns, .long M_runFirst, .long M_runLast, .ref aWs, .long M_peak, .long M_beside, .int M_besideAt])), (aRf, .inl (cRf, 3, .inl u_8))] H locs := hq
    have hf : ((r_9, M_at, M_fault, M_valueMany, M_signMany, M_tells, M_way, M_runTurns, M_runFirst, M_runLast, M_peak, M_beside, M_besideAt, fNw, fVs, fSg, fWs, u_8) : Int32 × Int32 × Int32 × Int32 × Int32 × Int64 × Int32 × Int32 × Int64 × Int64 × Int64 × Int64 × Int32 × (Nat → Int64) × (Nat → Int64) × (Nat → Int32) × (Nat → Int64) × (Nat → Int32)) = fX8_peak p1 M_at M_fault M_valueMany M_signMany M_tells M_way M_wish M_moreTick M_moreForce M_runTurns M_runFirst M_runLast M_peak M_beside M_besideAt fNw fVs fSg fWs fRf := by
      exact ((congrArg (fun (r_2 : Int32) => ((if r_2 = 0 then (
    let r_9 : Int32 := (fX8_bad (-2) fRf).1
    let u_8 : Nat → Int32 := (fX8_bad (-2) fRf).2
    (r_9, M_at, M_fault, M_valueMany, M_signMany, M_tells, M_way, M_runTurns, M_runFirst, M_runLast, M_peak, M_beside, M_besideAt, fNw, fVs, fSg, fWs, u_8))
  else (
    let u_5 : Int32 × Int32 × Int32 × Int32 × Int64 × Int32 × Int32 × Int64 × Int64 × Int64 × Int64 × Int32 × (Nat → Int64) × (Nat → Int64) × (Nat → Int32) × (Nat → Int64) := fX8_run p1 M_at M_fault M_valueMany M_signMany M_tells M_way M_wish M_moreTick M_moreForce fNw fVs fSg fWs
    (u_5.2.2.2.2.2.2.2.2.2.1.toInt32, u_5.1, u_5.2.1, u_5.2.2.1, u_5.2.2.2.1, u_5.2.2.2.2.1, u_5.2.2.2.2.2.1, u_5.2.2.2.2.2.2.1, u_5.2.2.2.2.2.2.2.1, u_5.2.2.2.2.2.2.2.2.1, u_5.2.2.2.2.2.2.2.2.2.1, u_5.2.2.2.2.2.2.2.2.2.2.1, u_5.2.2.2.2.2.2.2.2.2.2.2.1, u_5.2.2.2.2.2.2.2.2.2.2.2.2.1, u_5.2.2.2.2.2.2.2.2.2.2.2.2.2.1, u_5.2.2.2.2.2.2.2.2.2.2.2.2.2.2.1, u_5.2.2.2.2.2.2.2.2.2.2.2.2.2.2.2, fRf))) : Int32 × Int32 × Int32 × Int32 × Int32 × Int64 × Int32 × Int32 × Int64 × Int64 × Int64 × Int64 × Int32 × (Nat → Int64) × (Nat → Int64) × (Nat → Int32) × (Nat → Int64) × (Nat → Int32))) er_2.symm).trans ((if_pos c_4).trans ((congrArg (fun (r_9 : Int32) => ((let u_8 : Nat → Int32 := (fX8_bad (-2) fRf).2
  (r_9, M_at, M_fault, M_valueMany, M_signMany, M_tells, M_way, M_runTurns, M_runFirst, M_runLast, M_peak, M_beside, M_besideAt, fNw, fVs, fSg, fWs, u_8)) : Int32 × Int32 × Int32 × Int32 × Int32 × Int64 × Int32 × Int32 × Int64 × Int64 × Int64 × Int64 × Int32 × (Nat → Int64) × (Nat → Int64) × (Nat → Int32) × (Nat → Int64) × (Nat → Int32))) er_9.symm).trans ((congrArg (fun (u_8 : Nat → Int32) => (((r_9, M_at, M_fault, M_valueMany, M_signMany, M_tells, M_way, M_runTurns, M_runFirst, M_runLast, M_peak, M_beside, M_besideAt, fNw, fVs, fSg, fWs, u_8)) : Int32 × Int32 × Int32 × Int32 × Int32 × Int64 × Int32 × Int32 × Int64 × Int64 × Int64 × Int64 × Int32 × (Nat → Int64) × (Nat → Int64) × (Nat → Int32) × (Nat → Int64) × (Nat → Int32))) eu_8.symm))))).symm
    have hf1 := congrArg Prod.fst hf
    have hf2 := congrArg Prod.snd hf
    have en_0 : fNw = fNw := by first | assumption | rfl
    have en_1 : (M_way : Int32) = 0 := by first | assumption | rfl
    exact kk_ei hx hb hr hlocks hK hq [4, 0, 1, 2, 3, 5] (M_at, M_fault, M_valueMany, M_signMany, M_tells, M_way, M_runTurns, M_runFirst, M_runLast, M_peak, M_beside, M_besideAt, fNw, fVs, fSg, fWs, u_8) rfl (by decide) dX8_peak_13 ⟨hf1, hf2, en_0, en_1⟩
def fX8_gain (p1 : Int32) (M_at : Int32) (M_fault : Int32) (M_valueMany : Int32) (M_signMany : Int32) (M_tells : Int64) (M_way : Int32) (M_wish : Int32) (M_moreTick : Int64) (M_moreForce : Int64) (M_runTurns : Int32) (M_runFirst : Int64) (M_runLast : Int64) (M_peak : Int64) (M_beside : Int64) (M_besideAt : Int32) (fNw : Nat → Int64) (fVs : Nat → Int64) (fSg : Nat → Int32) (fWs : Nat → Int64) (fRf : Nat → Int32) : Int32 × Int32 × Int32 × Int32 × Int32 × Int64 × Int32 × Int32 × Int64 × Int64 × Int64 × Int64 × Int32 × (Nat → Int64) × (Nat → Int64) × (Nat → Int32) × (Nat → Int64) × (Nat → Int32) :=
  let r_2 : Int32 := fX8_isRun p1
  if r_2 = 0 then (
    let r_10 : Int32 := (fX8_bad (-10000000) fRf).1
    let u_9 : Nat → Int32 := (fX8_bad (-10000000) fRf).2
    (r_10, M_at, M_fault, M_valueMany, M_signMany, M_tells, M_way, M_runTurns, M_runFirst, M_runLast, M_peak, M_beside, M_besideAt, fNw, fVs, fSg, fWs, u_9))
  else (
    let u_5 : Int32 × Int32 × Int32 × Int32 × Int64 × Int32 × Int32 × Int64 × Int64 × Int64 × Int64 × Int32 × (Nat → Int64) × (Nat → Int64) × (Nat → Int32) × (Nat → Int64) := fX8_run p1 M_at M_fault M_valueMany M_signMany M_tells M_way M_wish M_moreTick M_moreForce fNw fVs fSg fWs
    if 2 ≤ u_5.2.2.2.2.2.2.1 then (
      ((u_5.2.2.2.2.2.2.2.2.1 - u_5.2.2.2.2.2.2.2.1).toInt32, u_5.1, u_5.2.1, u_5.2.2.1, u_5.2.2.2.1, u_5.2.2.2.2.1, u_5.2.2.2.2.2.1, u_5.2.2.2.2.2.2.1, u_5.2.2.2.2.2.2.2.1, u_5.2.2.2.2.2.2.2.2.1, u_5.2.2.2.2.2.2.2.2.2.1, u_5.2.2.2.2.2.2.2.2.2.2.1, u_5.2.2.2.2.2.2.2.2.2.2.2.1, u_5.2.2.2.2.2.2.2.2.2.2.2.2.1, u_5.2.2.2.2.2.2.2.2.2.2.2.2.2.1, u_5.2.2.2.2.2.2.2.2.2.2.2.2.2.2.1, u_5.2.2.2.2.2.2.2.2.2.2.2.2.2.2.2, fRf))
    else (
      (0, u_5.1, u_5.2.1, u_5.2.2.1, u_5.2.2.2.1, u_5.2.2.2.2.1, u_5.2.2.2.2.2.1, u_5.2.2.2.2.2.2.1, u_5.2.2.2.2.2.2.2.1, u_5.2.2.2.2.2.2.2.2.1, u_5.2.2.2.2.2.2.2.2.2.1, u_5.2.2.2.2.2.2.2.2.2.2.1, u_5.2.2.2.2.2.2.2.2.2.2.2.1, u_5.2.2.2.2.2.2.2.2.2.2.2.2.1, u_5.2.2.2.2.2.2.2.2.2.2.2.2.2.1, u_5.2.2.2.2.2.2.2.2.2.2.2.2.2.2.1, u_5.2.2.2.2.2.2.2.2.2.2.2.2.2.2.2, fRf)))

set_option maxHeartbeats 4000000 in
set_option maxRecDepth 100000 in
theorem c_X8_gain (l : Launch) (G : va_G) (aM aNw aVs aSg aWs aRf rM_kept rM_isKept : Nat) (cNw cVs cSg cWs cRf : ClassId) (p1 : Int32) (M_at : Int32) (M_fault : Int32) (M_valueMany : Int32) (M_signMany : Int32) (M_tells : Int64) (M_way : Int32) (M_wish : Int32) (M_moreTick : Int64) (M_moreForce : Int64) (M_runTurns : Int32) (M_runFirst : Int64) (M_runLast : Int64) (M_peak : Int64) (M_beside : Int64) (M_besideAt : Int32) (fNw : Nat → Int64) (fVs : Nat → Int64) (fSg : Nat → Int32) (fWs : Nat → Int64) (fRf : Nat → Int32) (wn : WN_ fNw) (w0 : M_way = 0) (tb : (fNw 6).toInt ≤ 1000000000) : kCi l yX8_gain (Cond.code yX8_gain cX8_gain 2 (some .int) :: wsL_law) ({ frames := 7, cells := 0, slots := 0, locals := 170 }) G [(cNw, .long), (cVs, .long), (cSg, .int), (cWs, .long), (cRf, .int)] [.ref aM, .int p1] [(aM, .inr (8, [.ref aNw, .ref rM_kept, .ref rM_isKept, .ref aRf, .int M_at, .int M_fault, .ref aVs, .int M_valueMany, .ref aSg, .int M_signMany, .long M_tells, .int M_way, .int M_wish, .long M_moreTick, .long M_moreForce, .int M_runTurns, .long M_runFirst, .long M_runLast, .ref aWs, .long M_peak, .long M_beside, .int M_besideAt])), (aNw, .inl (cNw, 139, .inr (.inl fNw))), (aVs, .inl (cVs, 64, .inr (.inl fVs))), (aSg, .inl (cSg, 128, .inl fSg)), (aWs, .inl (cWs, 53, .inr (.inl fWs))), (aRf, .inl (cRf, 3, .inl fRf))] (fun (r : Int32) (u : Int32 × Int32 × Int32 × Int32 × Int64 × Int32 × Int32 × Int64 × Int64 × Int64 × Int64 × Int32 × (Nat → Int64) × (Nat → Int64) × (Nat → Int32) × (Nat → Int64) × (Nat → Int32)) => r = (fX8_gain p1 M_at M_fault M_valueMany M_signMany M_tells M_way M_wish M_moreTick M_moreForce M_runTurns M_runFirst M_runLast M_peak M_beside M_besideAt fNw fVs fSg fWs fRf).1 ∧ u = (fX8_gain p1 M_at M_fault M_valueMany M_signMany M_tells M_way M_wish M_moreTick M_moreForce M_runTurns M_runFirst M_runLast M_peak M_beside M_besideAt fNw fVs fSg fWs fRf).2 ∧ (u.2.2.2.2.2.2.2.2.2.2.2.2.1 = fNw) ∧ ((u.2.2.2.2.2.1 : Int32) = 0)) (fun (u : Int32 × Int32 × Int32 × Int32 × Int64 × Int32 × Int32 × Int64 × Int64 × Int64 × Int64 × Int32 × (Nat → Int64) × (Nat → Int64) × (Nat → Int32) × (Nat → Int64) × (Nat → Int32)) => [(aM, .inr (8, [.ref aNw, .ref rM_kept, .ref rM_isKept, .ref aRf, .int u.1, .int u.2.1, .ref aVs, .int u.2.2.1, .ref aSg, .int u.2.2.2.1, .long u.2.2.2.2.1, .int u.2.2.2.2.2.1, .int M_wish, .long M_moreTick, .long M_moreForce, .int u.2.2.2.2.2.2.1, .long u.2.2.2.2.2.2.2.1, .long u.2.2.2.2.2.2.2.2.1, .ref aWs, .long u.2.2.2.2.2.2.2.2.2.1, .long u.2.2.2.2.2.2.2.2.2.2.1, .int u.2.2.2.2.2.2.2.2.2.2.2.1])), (aNw, .inl (cNw, 139, .inr (.inl u.2.2.2.2.2.2.2.2.2.2.2.2.1))), (aVs, .inl (cVs, 64, .inr (.inl u.2.2.2.2.2.2.2.2.2.2.2.2.2.1))), (aSg, .inl (cSg, 128, .inl u.2.2.2.2.2.2.2.2.2.2.2.2.2.2.1)), (aWs, .inl (cWs, 53, .inr (.inl u.2.2.2.2.2.2.2.2.2.2.2.2.2.2.2.1))), (aRf, .inl (cRf, 3, .inl u.2.2.2.2.2.2.2.2.2.2.2.2.2.2.2.2))]) := by
  intro sz
  refine Met.ofW (cc := cX8_gain) (maxL := 2) (ret := (some .int)) (by decide) rfl ?_
  intro p e s m args below meth c s₁ B hml hv
  obtain ⟨rfl, hv⟩ := hv
  obtain ⟨rfl, hK, hq, hA⟩ := kk_begin hv
  have hx := B.exec
  have hb := B.bytes
  have hr := B.returns
  have hts := atoms_spec (ws := (Cond.code yX8_gain cX8_gain 2 (some .int) :: wsL_law)) B.pre
  have hown : s.vm.findClass RX8 = some m.cls := findClass_of_methodNamed B.named
  have hlocks := B.notSynchronized
  have hsb : ∀ w ∈ wsL_law, w ∈ (Cond.code yX8_gain cX8_gain 2 (some .int) :: wsL_law) := fun _ h => List.mem_cons_of_mem _ h
  generalize va_A [(aM, .inr (8, [.ref aNw, .ref rM_kept, .ref rM_isKept, .ref aRf, .int M_at, .int M_fault, .ref aVs, .int M_valueMany, .ref aSg, .int M_signMany, .long M_tells, .int M_way, .int M_wish, .long M_moreTick, .long M_moreForce, .int M_runTurns, .long M_runFirst, .long M_runLast, .ref aWs, .long M_peak, .long M_beside, .int M_besideAt])), (aNw, .inl (cNw, 139, .inr (.inl fNw))), (aVs, .inl (cVs, 64, .inr (.inl fVs))), (aSg, .inl (cSg, 128, .inl fSg)), (aWs, .inl (cWs, 53, .inr (.inl fWs))), (aRf, .inl (cRf, 3, .inl fRf))] s.heap.size = A at hq hA ⊢
  have iX8 : ∀ w ∈ u_ws RX8 TX8 22, w ∈ (Cond.code yX8_gain cX8_gain 2 (some .int) :: wsL_law) := fun w h => hsb w (bin_X8 w h)
  have lk0_ := hts _ (hsb _ wd_565)
  have lk1_ := hts _ (hsb _ wd_567)
  have lk2_ := hts _ (hsb _ wd_566)
  have lk3_ := hts _ (hsb _ wd_590)
  have hl := lv_entry ([.ref aM, .int p1]) (n := 2) (Nat.le_of_ble_eq_true rfl)
  rw [lg_entry_eq]
  generalize (lg_sl ([.ref aM, .int p1]) ++ List.replicate (2 - (lg_sl ([.ref aM, .int p1])).length) Slot.unset).toArray = ls at hl ⊢
  have hl : lv_has ls 2 [(0, .ref aM), (1, .int p1)] := hl
  refine lv_iload_n hx hb dX8_gain_0 rfl (lv_at hl 1 rfl) ?_
  refine kk_Si (As := [.int p1]) (rest := []) (wr := [(aM, .inr (8, [.ref aNw, .ref rM_kept, .ref rM_isKept, .ref aRf, .int M_at, .int M_fault, .ref aVs, .int M_valueMany, .ref aSg, .int M_signMany, .long M_tells, .int M_way, .int M_wish, .long M_moreTick, .long M_moreForce, .int M_runTurns, .long M_runFirst, .long M_runLast, .ref aWs, .long M_peak, .long M_beside, .int M_besideAt])), (aNw, .inl (cNw, 139, .inr (.inl fNw))), (aVs, .inl (cVs, 64, .inr (.inl fVs))), (aSg, .inl (cSg, 128, .inl fSg)), (aWs, .inl (cWs, 53, .inr (.inl fWs))), (aRf, .inl (cRf, 3, .inl fRf))]) ⟨hx, hb, hml, hown, hts⟩ (c_X8_isRun l G p1) (kk_cwS 1 hts hsb wd_536 wd_537 wd_5 wd_538 rfl rfl hd_X8_isRun ⟨Nat.le_of_ble_eq_true rfl, Nat.le_of_ble_eq_true rfl⟩) hA hK hq [] [0, 1, 2, 3, 4, 5] [] rfl rfl rfl (by decide) (by decide) (by decide) rfl hl.1 rfl (Nat.le_of_ble_eq_true rfl) dX8_gain_1 ⟨Nat.zero_le _, Nat.zero_le _⟩ (fun r_2 u_1 H locs h_3 hq => ?_)
  obtain ⟨er_2, zr_2⟩ := h_3
  have hq : kAt G A s [(aM, .inr (8, [.ref aNw, .ref rM_kept, .ref rM_isKept, .ref aRf, .int M_at, .int M_fault, .ref aVs, .int M_valueMany, .ref aSg, .int M_signMany, .long M_tells, .int M_way, .int M_wish, .long M_moreTick, .long M_moreForce, .int M_runTurns, .long M_runFirst, .long M_runLast, .ref aWs, .long M_peak, .long M_beside, .int M_besideAt])), (aNw, .inl (cNw, 139, .inr (.inl fNw))), (aVs, .inl (cVs, 64, .inr (.inl fVs))), (aSg, .inl (cSg, 128, .inl fSg)), (aWs, .inl (cWs, 53, .inr (.inl fWs))), (aRf, .inl (cRf, 3, .inl fRf))] H locs := hq
  have hrun := er_2
  refine lv_if_ne (tgt := 14) hx hb dX8_gain_4 (by decide) (fun c_4 => ?_) (fun c_4 => ?_)
  · skip
    have hn := run8_le (hrun ▸ c_4)
    refine lv_aload_n hx hb dX8_gain_14 rfl (lv_at hl 0 rfl) ?_
    refine lv_iload_n hx hb dX8_gain_15 rfl (lv_at hl 1 rfl) ?_
    refine kk_Vv (As := [.int p1]) (rest := []) (wr := [(aRf, .inl (cRf, 3, .inl fRf))]) ⟨hx, hb, hml, hown, hts⟩ (c_X8_run l G aM aNw aVs aSg aWs rM_kept rM_isKept aRf cNw cVs cSg cWs p1 M_at M_fault M_valueMany M_signMany M_tells M_way M_wish M_moreTick M_moreForce M_runTurns M_runFirst M_runLast M_peak M_beside M_besideAt fNw fVs fSg fWs wn (wy_wh w0) tb hn.2) (kk_cwV 1 hts hsb wd_627 wd_628 wd_629 wd_5 wd_630 rfl rfl hd_X8_run ⟨Nat.le_of_ble_eq_true rfl, Nat.le_of_ble_eq_true rfl⟩) hA hK hq [0, 1, 2, 3, 4] [5] [0, 1, 2, 3] rfl rfl rfl (by decide) (by decide) (by decide) 0 8 rfl rfl rfl rfl hl.1 rfl (Nat.le_of_ble_eq_true rfl) dX8_gain_16 ⟨Nat.zero_le _, Nat.zero_le _⟩ (fun u_5 H locs h_7 hq => ?_)
    obtain ⟨eu_5, nw_u_5, wy_u_5⟩ := h_7
    have hq : kAt G A s [(aRf, .inl (cRf, 3, .inl fRf)), (aM, .inr (8, [.ref aNw, .ref rM_kept, .ref rM_isKept, .ref aRf, .int u_5.1, .int u_5.2.1, .ref aVs, .int u_5.2.2.1, .ref aSg, .int u_5.2.2.2.1, .long u_5.2.2.2.2.1, .int u_5.2.2.2.2.2.1, .int M_wish, .long M_moreTick, .long M_moreForce, .int u_5.2.2.2.2.2.2.1, .long u_5.2.2.2.2.2.2.2.1, .long u_5.2.2.2.2.2.2.2.2.1, .ref aWs, .long u_5.2.2.2.2.2.2.2.2.2.1, .long u_5.2.2.2.2.2.2.2.2.2.2.1, .int u_5.2.2.2.2.2.2.2.2.2.2.2.1])), (aNw, .inl (cNw, 139, .inr (.inl u_5.2.2.2.2.2.2.2.2.2.2.2.2.1))), (aVs, .inl (cVs, 64, .inr (.inl u_5.2.2.2.2.2.2.2.2.2.2.2.2.2.1))), (aSg, .inl (cSg, 128, .inl u_5.2.2.2.2.2.2.2.2.2.2.2.2.2.2.1)), (aWs, .inl (cWs, 53, .inr (.inl u_5.2.2.2.2.2.2.2.2.2.2.2.2.2.2.2)))] H locs := hq
    refine lv_aload_n hx hb dX8_gain_19 rfl (lv_at hl 0 rfl) ?_
    refine kk_get (ci := 8) (v := .int u_5.2.2.2.2.2.2.1) (C := RX8) (T := TX8) (N := 22) hx hb hts iX8 hown hK hq 1 rfl rfl 15 (by decide) lk0_ rfl dX8_gain_20 ?_
    refine lv_iconst (v := 2) hx hb dX8_gain_23 (by decide) ?_
    refine lv_icmp_ge (tgt := 31) hx hb dX8_gain_24 (by decide) (fun c_8 => ?_) (fun c_8 => ?_)
    · skip
      refine lv_aload_n hx hb dX8_gain_31 rfl (lv_at hl 0 rfl) ?_
      refine kk_get (ci := 8) (v := .long u_5.2.2.2.2.2.2.2.2.1) (C := RX8) (T := TX8) (N := 22) hx hb hts iX8 hown hK hq 1 rfl rfl 17 (by decide) lk1_ rfl dX8_gain_32 ?_
      refine lv_aload_n hx hb dX8_gain_35 rfl (lv_at hl 0 rfl) ?_
      refine kk_get (ci := 8) (v := .long u_5.2.2.2.2.2.2.2.1) (C := RX8) (T := TX8) (N := 22) hx hb hts iX8 hown hK hq 1 rfl rfl 16 (by decide) lk2_ rfl dX8_gain_36 ?_
      refine lv_lsub hx hb dX8_gain_39 ?_
      refine lv_l2i hx hb dX8_gain_40 rfl ?_
      have hf : (((u_5.2.2.2.2.2.2.2.2.1 - u_5.2.2.2.2.2.2.2.1).toInt32, u_5.1, u_5.2.1, u_5.2.2.1, u_5.2.2.2.1, u_5.2.2.2.2.1, u_5.2.2.2.2.2.1, u_5.2.2.2.2.2.2.1, u_5.2.2.2.2.2.2.2.1, u_5.2.2.2.2.2.2.2.2.1, u_5.2.2.2.2.2.2.2.2.2.1, u_5.2.2.2.2.2.2.2.2.2.2.1, u_5.2.2.2.2.2.2.2.2.2.2.2.1, u_5.2.2.2.2.2.2.2.2.2.2.2.2.1, u_5.2.2.2.2.2.2.2.2.2.2.2.2.2.1, u_5.2.2.2.2.2.2.2.2.2.2.2.2.2.2.1, u_5.2.2.2.2.2.2.2.2.2.2.2.2.2.2.2, fRf) : Int32 × Int32 × Int32 × Int32 × Int32 × Int64 × Int32 × Int32 × Int64 × Int64 × Int64 × Int64 × Int32 × (Nat → Int64) × (Nat → Int64) × (Nat → Int32) × (Nat → Int64) × (Nat → Int32)) = fX8_gain p1 M_at M_fault M_valueMany M_signMany M_tells M_way M_wish M_moreTick M_moreForce M_runTurns M_runFirst M_runLast M_peak M_beside M_besideAt fNw fVs fSg fWs fRf := by
        exact ((congrArg (fun (r_2 : Int32) => ((if r_2 = 0 then (
    let r_10 : Int32 := (fX8_bad (-10000000) fRf).1
    let u_9 : Nat → Int32 := (fX8_bad (-10000000) fRf).2
    (r_10, M_at, M_fault, M_valueMany, M_signMany, M_tells, M_way, M_runTurns, M_runFirst, M_runLast, M_peak, M_beside, M_besideAt, fNw, fVs, fSg, fWs, u_9))
  else (
    let u_5 : Int32 × Int32 × Int32 × Int32 × Int64 × Int32 × Int32 × Int64 × Int64 × Int64 × Int64 × Int32 × (Nat → Int64) × (Nat → Int64) × (Nat → Int32) × (Nat → Int64) := fX8_run p1 M_at M_fault M_valueMany M_signMany M_tells M_way M_wish M_moreTick M_moreForce fNw fVs fSg fWs
    if 2 ≤ u_5.2.2.2.2.2.2.1 then (
      ((u_5.2.2.2.2.2.2.2.2.1 - u_5.2.2.2.2.2.2.2.1).toInt32, u_5.1, u_5.2.1, u_5.2.2.1, u_5.2.2.2.1, u_5.2.2.2.2.1, u_5.2.2.2.2.2.1, u_5.2.2.2.2.2.2.1, u_5.2.2.2.2.2.2.2.1, u_5.2.2.2.2.2.2.2.2.1, u_5.2.2.2.2.2.2.2.2.2.1, u_5.2.2.2.2.2.2.2.2.2.2.1, u_5.2.2.2.2.2.2.2.2.2.2.2.1, u_5.2.2.2.2.2.2.2.2.2.2.2.2.1, u_5.2.2.2.2.2.2.2.2.2.2.2.2.2.1, u_5.2.2.2.2.2.2.2.2.2.2.2.2.2.2.1, u_5.2.2.2.2.2.2.2.2.2.2.2.2.2.2.2, fRf))
    else (
      (0, u_5.1, u_5.2.1, u_5.2.2.1, u_5.2.2.2.1, u_5.2.2.2.2.1, u_5.2.2.2.2.2.1, u_5.2.2.2.2.2.2.1, u_5.2.2.2.2.2.2.2.1, u_5.2.2.2.2.2.2.2.2.1, u_5.2.2.2.2.2.2.2.2.2.1, u_5.2.2.2.2.2.2.2.2.2.2.1, u_5.2.2.2.2.2.2.2.2.2.2.2.1, u_5.2.2.2.2.2.2.2.2.2.2.2.2.1, u_5.2.2.2.2.2.2.2.2.2.2.2.2.2.1, u_5.2.2.2.2.2.2.2.2.2.2.2.2.2.2.1, u_5.2.2.2.2.2.2.2.2.2.2.2.2.2.2.2, fRf)))) : Int32 × Int32 × Int32 × Int32 × Int32 × Int64 × Int32 × Int32 × Int64 × Int64 × Int64 × Int64 × Int32 × (Nat → Int64) × (Nat → Int64) × (Nat → Int32) × (Nat → Int64) × (Nat → Int32))) er_2.symm).trans ((if_neg c_4).trans ((congrArg (fun (u_5 : Int32 × Int32 × Int32 × Int32 × Int64 × Int32 × Int32 × Int64 × Int64 × Int64 × Int64 × Int32 × (Nat → Int64) × (Nat → Int64) × (Nat → Int32) × (Nat → Int64)) => ((if 2 ≤ u_5.2.2.2.2.2.2.1 then (
    ((u_5.2.2.2.2.2.2.2.2.1 - u_5.2.2.2.2.2.2.2.1).toInt32, u_5.1, u_5.2.1, u_5.2.2.1, u_5.2.2.2.1, u_5.2.2.2.2.1, u_5.2.2.2.2.2.1, u_5.2.2.2.2.2.2.1, u_5.2.2.2.2.2.2.2.1, u_5.2.2.2.2.2.2.2.2.1, u_5.2.2.2.2.2.2.2.2.2.1, u_5.2.2.2.2.2.2.2.2.2.2.1, u_5.2.2.2.2.2.2.2.2.2.2.2.1, u_5.2.2.2.2.2.2.2.2.2.2.2.2.1, u_5.2.2.2.2.2.2.2.2.2.2.2.2.2.1, u_5.2.2.2.2.2.2.2.2.2.2.2.2.2.2.1, u_5.2.2.2.2.2.2.2.2.2.2.2.2.2.2.2, fRf))
  else (
    (0, u_5.1, u_5.2.1, u_5.2.2.1, u_5.2.2.2.1, u_5.2.2.2.2.1, u_5.2.2.2.2.2.1, u_5.2.2.2.2.2.2.1, u_5.2.2.2.2.2.2.2.1, u_5.2.2.2.2.2.2.2.2.1, u_5.2.2.2.2.2.2.2.2.2.1, u_5.2.2.2.2.2.2.2.2.2.2.1, u_5.2.2.2.2.2.2.2.2.2.2.2.1, u_5.2.2.2.2.2.2.2.2.2.2.2.2.1, u_5.2.2.2.2.2.2.2.2.2.2.2.2.2.1, u_5.2.2.2.2.2.2.2.2.2.2.2.2.2.2.1, u_5.2.2.2.2.2.2.2.2.2.2.2.2.2.2.2, fRf))) : Int32 × Int32 × Int32 × Int32 × Int32 × Int64 × Int32 × Int32 × Int64 × Int64 × Int64 × Int64 × Int32 × (Nat → Int64) × (Nat → Int64) × (Nat → Int32) × (Nat → Int64) × (Nat → Int32))) eu_5.symm).trans ((if_pos c_8))))).symm
      have hf1 := congrArg Prod.fst hf
      have hf2 := congrArg Prod.snd hf
      have en_0 : u_5.2.2.2.2.2.2.2.2.2.2.2.2.1 = fNw := by first | assumption | rfl
      have en_1 : (u_5.2.2.2.2.2.1 : Int32) = 0 := by first | assumption | rfl
      exact kk_ei hx hb hr hlocks hK hq [1, 2, 3, 4, 5, 0] (u_5.1, u_5.2.1, u_5.2.2.1, u_5.2.2.2.1, u_5.2.2.2.2.1, u_5.2.2.2.2.2.1, u_5.2.2.2.2.2.2.1, u_5.2.2.2.2.2.2.2.1, u_5.2.2.2.2.2.2.2.2.1, u_5.2.2.2.2.2.2.2.2.2.1, u_5.2.2.2.2.2.2.2.2.2.2.1, u_5.2.2.2.2.2.2.2.2.2.2.2.1, u_5.2.2.2.2.2.2.2.2.2.2.2.2.1, u_5.2.2.2.2.2.2.2.2.2.2.2.2.2.1, u_5.2.2.2.2.2.2.2.2.2.2.2.2.2.2.1, u_5.2.2.2.2.2.2.2.2.2.2.2.2.2.2.2, fRf) rfl (by decide) dX8_gain_41 ⟨hf1, hf2, en_0, en_1⟩
    · skip
      refine lv_iconst (v := 0) hx hb dX8_gain_27 (by decide) ?_
      refine lv_goto (tgt := 41) hx hb dX8_gain_28 (by decide) ?_
      have hf : ((0, u_5.1, u_5.2.1, u_5.2.2.1, u_5.2.2.2.1, u_5.2.2.2.2.1, u_5.2.2.2.2.2.1, u_5.2.2.2.2.2.2.1, u_5.2.2.2.2.2.2.2.1, u_5.2.2.2.2.2.2.2.2.1, u_5.2.2.2.2.2.2.2.2.2.1, u_5.2.2.2.2.2.2.2.2.2.2.1, u_5.2.2.2.2.2.2.2.2.2.2.2.1, u_5.2.2.2.2.2.2.2.2.2.2.2.2.1, u_5.2.2.2.2.2.2.2.2.2.2.2.2.2.1, u_5.2.2.2.2.2.2.2.2.2.2.2.2.2.2.1, u_5.2.2.2.2.2.2.2.2.2.2.2.2.2.2.2, fRf) : Int32 × Int32 × Int32 × Int32 × Int32 × Int64 × Int32 × Int32 × Int64 × Int64 × Int64 × Int64 × Int32 × (Nat → Int64) × (Nat → Int64) × (Nat → Int32) × (Nat → Int64) × (Nat → Int32)) = fX8_gain p1 M_at M_fault M_valueMany M_signMany M_tells M_way M_wish M_moreTick M_moreForce M_runTurns M_runFirst M_runLast M_peak M_beside M_besideAt fNw fVs fSg fWs fRf := by
        exact ((congrArg (fun (r_2 : Int32) => ((if r_2 = 0 then (
    let r_10 : Int32 := (fX8_bad (-10000000) fRf).1
    let u_9 : Nat → Int32 := (fX8_bad (-10000000) fRf).2
    (r_10, M_at, M_fault, M_valueMany, M_signMany, M_tells, M_way, M_runTurns, M_runFirst, M_runLast, M_peak, M_beside, M_besideAt, fNw, fVs, fSg, fWs, u_9))
  else (
    let u_5 : Int32 × Int32 × Int32 × Int32 × Int64 × Int32 × Int32 × Int64 × Int64 × Int64 × Int64 × Int32 × (Nat → Int64) × (Nat → Int64) × (Nat → Int32) × (Nat → Int64) := fX8_run p1 M_at M_fault M_valueMany M_signMany M_tells M_way M_wish M_moreTick M_moreForce fNw fVs fSg fWs
    if 2 ≤ u_5.2.2.2.2.2.2.1 then (
      ((u_5.2.2.2.2.2.2.2.2.1 - u_5.2.2.2.2.2.2.2.1).toInt32, u_5.1, u_5.2.1, u_5.2.2.1, u_5.2.2.2.1, u_5.2.2.2.2.1, u_5.2.2.2.2.2.1, u_5.2.2.2.2.2.2.1, u_5.2.2.2.2.2.2.2.1, u_5.2.2.2.2.2.2.2.2.1, u_5.2.2.2.2.2.2.2.2.2.1, u_5.2.2.2.2.2.2.2.2.2.2.1, u_5.2.2.2.2.2.2.2.2.2.2.2.1, u_5.2.2.2.2.2.2.2.2.2.2.2.2.1, u_5.2.2.2.2.2.2.2.2.2.2.2.2.2.1, u_5.2.2.2.2.2.2.2.2.2.2.2.2.2.2.1, u_5.2.2.2.2.2.2.2.2.2.2.2.2.2.2.2, fRf))
    else (
      (0, u_5.1, u_5.2.1, u_5.2.2.1, u_5.2.2.2.1, u_5.2.2.2.2.1, u_5.2.2.2.2.2.1, u_5.2.2.2.2.2.2.1, u_5.2.2.2.2.2.2.2.1, u_5.2.2.2.2.2.2.2.2.1, u_5.2.2.2.2.2.2.2.2.2.1, u_5.2.2.2.2.2.2.2.2.2.2.1, u_5.2.2.2.2.2.2.2.2.2.2.2.1, u_5.2.2.2.2.2.2.2.2.2.2.2.2.1, u_5.2.2.2.2.2.2.2.2.2.2.2.2.2.1, u_5.2.2.2.2.2.2.2.2.2.2.2.2.2.2.1, u_5.2.2.2.2.2.2.2.2.2.2.2.2.2.2.2, fRf)))) : Int32 × Int32 × Int32 × Int32 × Int32 × Int64 × Int32 × Int32 × Int64 × Int64 × Int64 × Int64 × Int32 × (Nat → Int64) × (Nat → Int64) × (Nat → Int32) × (Nat → Int64) × (Nat → Int32))) er_2.symm).trans ((if_neg c_4).trans ((congrArg (fun (u_5 : Int32 × Int32 × Int32 × Int32 × Int64 × Int32 × Int32 × Int64 × Int64 × Int64 × Int64 × Int32 × (Nat → Int64) × (Nat → Int64) × (Nat → Int32) × (Nat → Int64)) => ((if 2 ≤ u_5.2.2.2.2.2.2.1 then (
    ((u_5.2.2.2.2.2.2.2.2.1 - u_5.2.2.2.2.2.2.2.1).toInt32, u_5.1, u_5.2.1, u_5.2.2.1, u_5.2.2.2.1, u_5.2.2.2.2.1, u_5.2.2.2.2.2.1, u_5.2.2.2.2.2.2.1, u_5.2.2.2.2.2.2.2.1, u_5.2.2.2.2.2.2.2.2.1, u_5.2.2.2.2.2.2.2.2.2.1, u_5.2.2.2.2.2.2.2.2.2.2.1, u_5.2.2.2.2.2.2.2.2.2.2.2.1, u_5.2.2.2.2.2.2.2.2.2.2.2.2.1, u_5.2.2.2.2.2.2.2.2.2.2.2.2.2.1, u_5.2.2.2.2.2.2.2.2.2.2.2.2.2.2.1, u_5.2.2.2.2.2.2.2.2.2.2.2.2.2.2.2, fRf))
  else (
    (0, u_5.1, u_5.2.1, u_5.2.2.1, u_5.2.2.2.1, u_5.2.2.2.2.1, u_5.2.2.2.2.2.1, u_5.2.2.2.2.2.2.1, u_5.2.2.2.2.2.2.2.1, u_5.2.2.2.2.2.2.2.2.1, u_5.2.2.2.2.2.2.2.2.2.1, u_5.2.2.2.2.2.2.2.2.2.2.1, u_5.2.2.2.2.2.2.2.2.2.2.2.1, u_5.2.2.2.2.2.2.2.2.2.2.2.2.1, u_5.2.2.2.2.2.2.2.2.2.2.2.2.2.1, u_5.2.2.2.2.2.2.2.2.2.2.2.2.2.2.1, u_5.2.2.2.2.2.2.2.2.2.2.2.2.2.2.2, fRf))) : Int32 × Int32 × Int32 × Int32 × Int32 × Int64 × Int32 × Int32 × Int64 × Int64 × Int64 × Int64 × Int32 × (Nat → Int64) × (Nat → Int64) × (Nat → Int32) × (Nat → Int64) × (Nat → Int32))) eu_5.symm).trans ((if_neg c_8))))).symm
      have hf1 := congrArg Prod.fst hf
      have hf2 := congrArg Prod.snd hf
      have en_0 : u_5.2.2.2.2.2.2.2.2.2.2.2.2.1 = fNw := by first | assumption | rfl
      have en_1 : (u_5.2.2.2.2.2.1 : Int32) = 0 := by first | assumption | rfl
      exact kk_ei hx hb hr hlocks hK hq [1, 2, 3, 4, 5, 0] (u_5.1, u_5.2.1, u_5.2.2.1, u_5.2.2.2.1, u_5.2.2.2.2.1, u_5.2.2.2.2.2.1, u_5.2.2.2.2.2.2.1, u_5.2.2.2.2.2.2.2.1, u_5.2.2.2.2.2.2.2.2.1, u_5.2.2.2.2.2.2.2.2.2.1, u_5.2.2.2.2.2.2.2.2.2.2.1, u_5.2.2.2.2.2.2.2.2.2.2.2.1, u_5.2.2.2.2.2.2.2.2.2.2.2.2.1, u_5.2.2.2.2.2.2.2.2.2.2.2.2.2.1, u_5.2.2.2.2.2.2.2.2.2.2.2.2.2.2.1, u_5.2.2.2.2.2.2.2.2.2.2.2.2.2.2.2, fRf) rfl (by decide) dX8_gain_41 ⟨hf1, hf2, en_0, en_1⟩
  · skip
    refine lv_aload_n hx hb dX8_gain_7 rfl (lv_at hl 0 rfl) ?_
    refine lv_ldc hx hb hown lk3_ dX8_gain_8 ?_
    refine kk_Vi (As := [.int (-10000000)]) (rest := []) (wr := [(aNw, .inl (cNw, 139, .inr (.inl fNw))), (aVs, .inl (cVs, 64, .inr (.inl fVs))), (aSg, .inl (cSg, 128, .inl fSg)), (aWs, .inl (cWs, 53, .inr (.inl fWs)))]) ⟨hx, hb, hml, hown, hts⟩ (c_X8_bad l G aM aRf aNw rM_kept rM_isKept aVs aSg aWs cRf (-10000000) M_at M_fault M_valueMany M_signMany M_tells M_way M_wish M_moreTick M_moreForce M_runTurns M_runFirst M_runLast M_peak M_beside M_besideAt fRf) (kk_cwV 1 hts hsb wd_159 wd_160 wd_161 wd_5 wd_162 rfl rfl hd_X8_bad ⟨Nat.le_of_ble_eq_true rfl, Nat.le_of_ble_eq_true rfl⟩) hA hK hq [0, 5] [1, 2, 3, 4] [4] rfl rfl rfl (by decide) (by decide) (by decide) 0 8 rfl rfl rfl rfl hl.1 rfl (Nat.le_of_ble_eq_true rfl) dX8_gain_10 ⟨Nat.zero_le _, Nat.zero_le _⟩ (fun r_10 u_9 H locs h_11 hq => ?_)
    obtain ⟨er_10, eu_9⟩ := h_11
    have hq : kAt G A s [(aNw, .inl (cNw, 139, .inr (.inl fNw))), (aVs, .inl (cVs, 64, .inr (.inl fVs))), (aSg, .inl (cSg, 128, .inl fSg)), (aWs, .inl (cWs, 53, .inr (.inl fWs))), (aM, .inr (8, [.ref aNw, .ref rM_kept, .ref rM_isKept, .ref aRf, .int M_at, .int M_fault, .ref aVs, .int M_valueMany, .ref aSg, .int M_signMany, .long M_tells, .int M_way, .int M_wish, .long M_moreTick, .long M_moreForce, .int M_runTurns, .long M_runFirst, .long M_runLast, .ref aWs, .long M_peak, .long M_beside, .int M_besideAt])), (aRf, .inl (cRf, 3, .inl u_9))] H locs := hq
    have hf : ((r_10, M_at, M_fault, M_valueMany, M_signMany, M_tells, M_way, M_runTurns, M_runFirst, M_runLast, M_peak, M_beside, M_besideAt, fNw, fVs, fSg, fWs, u_9) : Int32 × Int32 × Int32 × Int32 × Int32 × Int64 × Int32 × Int32 × Int64 × Int64 × Int64 × Int64 × Int32 × (Nat → Int64) × (Nat → Int64) × (Nat → Int32) × (Nat → Int64) × (Nat → Int32)) = fX8_gain p1 M_at M_fault M_valueMany M_signMany M_tells M_way M_wish M_moreTick M_moreForce M_runTurns M_runFirst M_runLast M_peak M_beside M_besideAt fNw fVs fSg fWs fRf := by
      exact ((congrArg (fun (r_2 : Int32) => ((if r_2 = 0 then (
    let r_10 : Int32 := (fX8_bad (-10000000) fRf).1
    let u_9 : Nat → Int32 := (fX8_bad (-10000000) fRf).2
    (r_10, M_at, M_fault, M_valueMany, M_signMany, M_tells, M_way, M_runTurns, M_runFirst, M_runLast, M_peak, M_beside, M_besideAt, fNw, fVs, fSg, fWs, u_9))
  else (
    let u_5 : Int32 × Int32 × Int32 × Int32 × Int64 × Int32 × Int32 × Int64 × Int64 × Int64 × Int64 × Int32 × (Nat → Int64) × (Nat → Int64) × (Nat → Int32) × (Nat → Int64) := fX8_run p1 M_at M_fault M_valueMany M_signMany M_tells M_way M_wish M_moreTick M_moreForce fNw fVs fSg fWs
    if 2 ≤ u_5.2.2.2.2.2.2.1 then (
      ((u_5.2.2.2.2.2.2.2.2.1 - u_5.2.2.2.2.2.2.2.1).toInt32, u_5.1, u_5.2.1, u_5.2.2.1, u_5.2.2.2.1, u_5.2.2.2.2.1, u_5.2.2.2.2.2.1, u_5.2.2.2.2.2.2.1, u_5.2.2.2.2.2.2.2.1, u_5.2.2.2.2.2.2.2.2.1, u_5.2.2.2.2.2.2.2.2.2.1, u_5.2.2.2.2.2.2.2.2.2.2.1, u_5.2.2.2.2.2.2.2.2.2.2.2.1, u_5.2.2.2.2.2.2.2.2.2.2.2.2.1, u_5.2.2.2.2.2.2.2.2.2.2.2.2.2.1, u_5.2.2.2.2.2.2.2.2.2.2.2.2.2.2.1, u_5.2.2.2.2.2.2.2.2.2.2.2.2.2.2.2, fRf))
    else (
      (0, u_5.1, u_5.2.1, u_5.2.2.1, u_5.2.2.2.1, u_5.2.2.2.2.1, u_5.2.2.2.2.2.1, u_5.2.2.2.2.2.2.1, u_5.2.2.2.2.2.2.2.1, u_5.2.2.2.2.2.2.2.2.1, u_5.2.2.2.2.2.2.2.2.2.1, u_5.2.2.2.2.2.2.2.2.2.2.1, u_5.2.2.2.2.2.2.2.2.2.2.2.1, u_5.2.2.2.2.2.2.2.2.2.2.2.2.1, u_5.2.2.2.2.2.2.2.2.2.2.2.2.2.1, u_5.2.2.2.2.2.2.2.2.2.2.2.2.2.2.1, u_5.2.2.2.2.2.2.2.2.2.2.2.2.2.2.2, fRf)))) : Int32 × Int32 × Int32 × Int32 × Int32 × Int64 × Int32 × Int32 × Int64 × Int64 × Int64 × Int64 × Int32 × (Nat → Int64) × (Nat → Int64) × (Nat → Int32) × (Nat → Int64) × (Nat → Int32))) er_2.symm).trans ((if_pos c_4).trans ((congrArg (fun (r_10 : Int32) => ((let u_9 : Nat → Int32 := (fX8_bad (-10000000) fRf).2
  (r_10, M_at, M_fault, M_valueMany, M_signMany, M_tells, M_way, M_runTurns, M_runFirst, M_runLast, M_peak, M_beside, M_besideAt, fNw, fVs, fSg, fWs, u_9)) : Int32 × Int32 × Int32 × Int32 × Int32 × Int64 × Int32 × Int32 × Int64 × Int64 × Int64 × Int64 × Int32 × (Nat → Int64) × (Nat → Int64) × (Nat → Int32) × (Nat → Int64) × (Nat → Int32))) er_10.symm).trans ((congrArg (fun (u_9 : Nat → Int32) => (((r_10, M_at, M_fault, M_valueMany, M_signMany, M_tells, M_way, M_runTurns, M_runFirst, M_runLast, M_peak, M_beside, M_besideAt, fNw, fVs, fSg, fWs, u_9)) : Int32 × Int32 × Int32 × Int32 × Int32 × Int64 × Int32 × Int32 × Int64 × Int64 × Int64 × Int64 × Int32 × (Nat → Int64) × (Nat → Int64) × (Nat → Int32) × (Nat → Int64) × (Nat → Int32))) eu_9.symm))))).symm
    have hf1 := congrArg Prod.fst hf
    have hf2 := congrArg Prod.snd hf
    have en_0 : fNw = fNw := by first | assumption | rfl
    have en_1 : (M_way : Int32) = 0 := by first | assumption | rfl
    exact kk_ei hx hb hr hlocks hK hq [4, 0, 1, 2, 3, 5] (M_at, M_fault, M_valueMany, M_signMany, M_tells, M_way, M_runTurns, M_runFirst, M_runLast, M_peak, M_beside, M_besideAt, fNw, fVs, fSg, fWs, u_9) rfl (by decide) dX8_gain_13 ⟨hf1, hf2, en_0, en_1⟩
def fX8_swaps (p1 : Int32) (p2 : Int32) (M_at : Int32) (M_fault : Int32) (M_valueMany : Int32) (M_signMany : Int32) (M_tells : Int64) (M_way : Int32) (M_wish : Int32) (M_moreTick : Int64) (M_moreForce : Int64) (M_runTurns : Int32) (M_runFirst : Int64) (M_runLast : Int64) (M_peak : Int64) (M_beside : Int64) (M_besideAt : Int32) (fNw : Nat → Int64) (fVs : Nat → Int64) (fSg : Nat → Int32) (fWs : Nat → Int64) (fRf : Nat → Int32) : Int32 × Int32 × Int32 × Int32 × Int32 × Int64 × Int32 × Int32 × Int64 × Int64 × Int64 × Int64 × Int32 × (Nat → Int64) × (Nat → Int64) × (Nat → Int32) × (Nat → Int64) × (Nat → Int32) :=
  let r_2 : Int32 := fX8_isRun p1
  if r_2 = 0 then (
    let r_6 : Int32 := (fX8_bad (-2) fRf).1
    let u_5 : Nat → Int32 := (fX8_bad (-2) fRf).2
    (r_6, M_at, M_fault, M_valueMany, M_signMany, M_tells, M_way, M_runTurns, M_runFirst, M_runLast, M_peak, M_beside, M_besideAt, fNw, fVs, fSg, fWs, u_5))
  else (
    let r_9 : Int32 := fX8_in p2.toInt64 0 1
    if r_9 = 0 then (
      let r_17 : Int32 := (fX8_bad (-2) fRf).1
      let u_16 : Nat → Int32 := (fX8_bad (-2) fRf).2
      (r_17, M_at, M_fault, M_valueMany, M_signMany, M_tells, M_way, M_runTurns, M_runFirst, M_runLast, M_peak, M_beside, M_besideAt, fNw, fVs, fSg, fWs, u_16))
    else (
      let u_12 : Int32 × Int32 × Int32 × Int32 × Int64 × Int32 × Int32 × Int64 × Int64 × Int64 × Int64 × Int32 × (Nat → Int64) × (Nat → Int64) × (Nat → Int32) × (Nat → Int64) := fX8_run p1 M_at M_fault M_valueMany M_signMany M_tells M_way M_wish M_moreTick M_moreForce fNw fVs fSg fWs
      if p2 = 0 then (
        (u_12.2.2.2.2.2.2.2.2.2.2.1.toInt32, u_12.1, u_12.2.1, u_12.2.2.1, u_12.2.2.2.1, u_12.2.2.2.2.1, u_12.2.2.2.2.2.1, u_12.2.2.2.2.2.2.1, u_12.2.2.2.2.2.2.2.1, u_12.2.2.2.2.2.2.2.2.1, u_12.2.2.2.2.2.2.2.2.2.1, u_12.2.2.2.2.2.2.2.2.2.2.1, u_12.2.2.2.2.2.2.2.2.2.2.2.1, u_12.2.2.2.2.2.2.2.2.2.2.2.2.1, u_12.2.2.2.2.2.2.2.2.2.2.2.2.2.1, u_12.2.2.2.2.2.2.2.2.2.2.2.2.2.2.1, u_12.2.2.2.2.2.2.2.2.2.2.2.2.2.2.2, fRf))
      else (
        (u_12.2.2.2.2.2.2.2.2.2.2.2.1, u_12.1, u_12.2.1, u_12.2.2.1, u_12.2.2.2.1, u_12.2.2.2.2.1, u_12.2.2.2.2.2.1, u_12.2.2.2.2.2.2.1, u_12.2.2.2.2.2.2.2.1, u_12.2.2.2.2.2.2.2.2.1, u_12.2.2.2.2.2.2.2.2.2.1, u_12.2.2.2.2.2.2.2.2.2.2.1, u_12.2.2.2.2.2.2.2.2.2.2.2.1, u_12.2.2.2.2.2.2.2.2.2.2.2.2.1, u_12.2.2.2.2.2.2.2.2.2.2.2.2.2.1, u_12.2.2.2.2.2.2.2.2.2.2.2.2.2.2.1, u_12.2.2.2.2.2.2.2.2.2.2.2.2.2.2.2, fRf))))

set_option maxHeartbeats 4000000 in
set_option maxRecDepth 100000 in
theorem c_X8_swaps (l : Launch) (G : va_G) (aM aNw aVs aSg aWs aRf rM_kept rM_isKept : Nat) (cNw cVs cSg cWs cRf : ClassId) (p1 : Int32) (p2 : Int32) (M_at : Int32) (M_fault : Int32) (M_valueMany : Int32) (M_signMany : Int32) (M_tells : Int64) (M_way : Int32) (M_wish : Int32) (M_moreTick : Int64) (M_moreForce : Int64) (M_runTurns : Int32) (M_runFirst : Int64) (M_runLast : Int64) (M_peak : Int64) (M_beside : Int64) (M_besideAt : Int32) (fNw : Nat → Int64) (fVs : Nat → Int64) (fSg : Nat → Int32) (fWs : Nat → Int64) (fRf : Nat → Int32) (wn : WN_ fNw) (w0 : M_way = 0) (tb : (fNw 6).toInt ≤ 1000000000) : kCi l yX8_swaps (Cond.code yX8_swaps cX8_swaps 3 (some .int) :: wsL_law) ({ frames := 7, cells := 0, slots := 0, locals := 170 }) G [(cNw, .long), (cVs, .long), (cSg, .int), (cWs, .long), (cRf, .int)] [.ref aM, .int p1, .int p2] [(aM, .inr (8, [.ref aNw, .ref rM_kept, .ref rM_isKept, .ref aRf, .int M_at, .int M_fault, .ref aVs, .int M_valueMany, .ref aSg, .int M_signMany, .long M_tells, .int M_way, .int M_wish, .long M_moreTick, .long M_moreForce, .int M_runTurns, .long M_runFirst, .long M_runLast, .ref aWs, .long M_peak, .long M_beside, .int M_besideAt])), (aNw, .inl (cNw, 139, .inr (.inl fNw))), (aVs, .inl (cVs, 64, .inr (.inl fVs))), (aSg, .inl (cSg, 128, .inl fSg)), (aWs, .inl (cWs, 53, .inr (.inl fWs))), (aRf, .inl (cRf, 3, .inl fRf))] (fun (r : Int32) (u : Int32 × Int32 × Int32 × Int32 × Int64 × Int32 × Int32 × Int64 × Int64 × Int64 × Int64 × Int32 × (Nat → Int64) × (Nat → Int64) × (Nat → Int32) × (Nat → Int64) × (Nat → Int32)) => r = (fX8_swaps p1 p2 M_at M_fault M_valueMany M_signMany M_tells M_way M_wish M_moreTick M_moreForce M_runTurns M_runFirst M_runLast M_peak M_beside M_besideAt fNw fVs fSg fWs fRf).1 ∧ u = (fX8_swaps p1 p2 M_at M_fault M_valueMany M_signMany M_tells M_way M_wish M_moreTick M_moreForce M_runTurns M_runFirst M_runLast M_peak M_beside M_besideAt fNw fVs fSg fWs fRf).2 ∧ (u.2.2.2.2.2.2.2.2.2.2.2.2.1 = fNw) ∧ ((u.2.2.2.2.2.1 : Int32) = 0)) (fun (u : Int32 × Int32 × Int32 × Int32 × Int64 × Int32 × Int32 × Int64 × Int64 × Int64 × Int64 × Int32 × (Nat → Int64) × (Nat → Int64) × (Nat → Int32) × (Nat → Int64) × (Nat → Int32)) => [(aM, .inr (8, [.ref aNw, .ref rM_kept, .ref rM_isKept, .ref aRf, .int u.1, .int u.2.1, .ref aVs, .int u.2.2.1, .ref aSg, .int u.2.2.2.1, .long u.2.2.2.2.1, .int u.2.2.2.2.2.1, .int M_wish, .long M_moreTick, .long M_moreForce, .int u.2.2.2.2.2.2.1, .long u.2.2.2.2.2.2.2.1, .long u.2.2.2.2.2.2.2.2.1, .ref aWs, .long u.2.2.2.2.2.2.2.2.2.1, .long u.2.2.2.2.2.2.2.2.2.2.1, .int u.2.2.2.2.2.2.2.2.2.2.2.1])), (aNw, .inl (cNw, 139, .inr (.inl u.2.2.2.2.2.2.2.2.2.2.2.2.1))), (aVs, .inl (cVs, 64, .inr (.inl u.2.2.2.2.2.2.2.2.2.2.2.2.2.1))), (aSg, .inl (cSg, 128, .inl u.2.2.2.2.2.2.2.2.2.2.2.2.2.2.1)), (aWs, .inl (cWs, 53, .inr (.inl u.2.2.2.2.2.2.2.2.2.2.2.2.2.2.2.1))), (aRf, .inl (cRf, 3, .inl u.2.2.2.2.2.2.2.2.2.2.2.2.2.2.2.2))]) := by
  intro sz
  refine Met.ofW (cc := cX8_swaps) (maxL := 3) (ret := (some .int)) (by decide) rfl ?_
  intro p e s m args below meth c s₁ B hml hv
  obtain ⟨rfl, hv⟩ := hv
  obtain ⟨rfl, hK, hq, hA⟩ := kk_begin hv
  have hx := B.exec
  have hb := B.bytes
  have hr := B.returns
  have hts := atoms_spec (ws := (Cond.code yX8_swaps cX8_swaps 3 (some .int) :: wsL_law)) B.pre
  have hown : s.vm.findClass RX8 = some m.cls := findClass_of_methodNamed B.named
  have hlocks := B.notSynchronized
  have hsb : ∀ w ∈ wsL_law, w ∈ (Cond.code yX8_swaps cX8_swaps 3 (some .int) :: wsL_law) := fun _ h => List.mem_cons_of_mem _ h
  generalize va_A [(aM, .inr (8, [.ref aNw, .ref rM_kept, .ref rM_isKept, .ref aRf, .int M_at, .int M_fault, .ref aVs, .int M_valueMany, .ref aSg, .int M_signMany, .long M_tells, .int M_way, .int M_wish, .long M_moreTick, .long M_moreForce, .int M_runTurns, .long M_runFirst, .long M_runLast, .ref aWs, .long M_peak, .long M_beside, .int M_besideAt])), (aNw, .inl (cNw, 139, .inr (.inl fNw))), (aVs, .inl (cVs, 64, .inr (.inl fVs))), (aSg, .inl (cSg, 128, .inl fSg)), (aWs, .inl (cWs, 53, .inr (.inl fWs))), (aRf, .inl (cRf, 3, .inl fRf))] s.heap.size = A at hq hA ⊢
  have iX8 : ∀ w ∈ u_ws RX8 TX8 22, w ∈ (Cond.code yX8_swaps cX8_swaps 3 (some .int) :: wsL_law) := fun w h => hsb w (bin_X8 w h)
  have lk0_ := hts _ (hsb _ wd_640)
  have lk1_ := hts _ (hsb _ wd_639)
  have hl := lv_entry ([.ref aM, .int p1, .int p2]) (n := 3) (Nat.le_of_ble_eq_true rfl)
  rw [lg_entry_eq]
  generalize (lg_sl ([.ref aM, .int p1, .int p2]) ++ List.replicate (3 - (lg_sl ([.ref aM, .int p1, .int p2])).length) Slot.unset).toArray = ls at hl ⊢
  have hl : lv_has ls 3 [(0, .ref aM), (1, .int p1), (2, .int p2)] := hl
  refine lv_iload_n hx hb dX8_swaps_0 rfl (lv_at hl 1 rfl) ?_
  refine kk_Si (As := [.int p1]) (rest := []) (wr := [(aM, .inr (8, [.ref aNw, .ref rM_kept, .ref rM_isKept, .ref aRf, .int M_at, .int M_fault, .ref aVs, .int M_valueMany, .ref aSg, .int M_signMany, .long M_tells, .int M_way, .int M_wish, .long M_moreTick, .long M_moreForce, .int M_runTurns, .long M_runFirst, .long M_runLast, .ref aWs, .long M_peak, .long M_beside, .int M_besideAt])), (aNw, .inl (cNw, 139, .inr (.inl fNw))), (aVs, .inl (cVs, 64, .inr (.inl fVs))), (aSg, .inl (cSg, 128, .inl fSg)), (aWs, .inl (cWs, 53, .inr (.inl fWs))), (aRf, .inl (cRf, 3, .inl fRf))]) ⟨hx, hb, hml, hown, hts⟩ (c_X8_isRun l G p1) (kk_cwS 1 hts hsb wd_536 wd_537 wd_5 wd_538 rfl rfl hd_X8_isRun ⟨Nat.le_of_ble_eq_true rfl, Nat.le_of_ble_eq_true rfl⟩) hA hK hq [] [0, 1, 2, 3, 4, 5] [] rfl rfl rfl (by decide) (by decide) (by decide) rfl hl.1 rfl (Nat.le_of_ble_eq_true rfl) dX8_swaps_1 ⟨Nat.zero_le _, Nat.zero_le _⟩ (fun r_2 u_1 H locs h_3 hq => ?_)
  obtain ⟨er_2, zr_2⟩ := h_3
  have hq : kAt G A s [(aM, .inr (8, [.ref aNw, .ref rM_kept, .ref rM_isKept, .ref aRf, .int M_at, .int M_fault, .ref aVs, .int M_valueMany, .ref aSg, .int M_signMany, .long M_tells, .int M_way, .int M_wish, .long M_moreTick, .long M_moreForce, .int M_runTurns, .long M_runFirst, .long M_runLast, .ref aWs, .long M_peak, .long M_beside, .int M_besideAt])), (aNw, .inl (cNw, 139, .inr (.inl fNw))), (aVs, .inl (cVs, 64, .inr (.inl fVs))), (aSg, .inl (cSg, 128, .inl fSg)), (aWs, .inl (cWs, 53, .inr (.inl fWs))), (aRf, .inl (cRf, 3, .inl fRf))] H locs := hq
  have hrun := er_2
  refine lv_if_eq (tgt := 17) hx hb dX8_swaps_4 (by decide) (fun c_4 => ?_) (fun c_4 => ?_)
  · skip
    refine lv_aload_n hx hb dX8_swaps_17 rfl (lv_at hl 0 rfl) ?_
    refine lv_bipush (v := -2) hx hb dX8_swaps_18 (by decide) ?_
    refine kk_Vi (As := [.int (-2)]) (rest := []) (wr := [(aNw, .inl (cNw, 139, .inr (.inl fNw))), (aVs, .inl (cVs, 64, .inr (.inl fVs))), (aSg, .inl (cSg, 128, .inl fSg)), (aWs, .inl (cWs, 53, .inr (.inl fWs)))]) ⟨hx, hb, hml, hown, hts⟩ (c_X8_bad l G aM aRf aNw rM_kept rM_isKept aVs aSg aWs cRf (-2) M_at M_fault M_valueMany M_signMany M_tells M_way M_wish M_moreTick M_moreForce M_runTurns M_runFirst M_runLast M_peak M_beside M_besideAt fRf) (kk_cwV 1 hts hsb wd_159 wd_160 wd_161 wd_5 wd_162 rfl rfl hd_X8_bad ⟨Nat.le_of_ble_eq_true rfl, Nat.le_of_ble_eq_true rfl⟩) hA hK hq [0, 5] [1, 2, 3, 4] [4] rfl rfl rfl (by decide) (by decide) (by decide) 0 8 rfl rfl rfl rfl hl.1 rfl (Nat.le_of_ble_eq_true rfl) dX8_swaps_20 ⟨Nat.zero_le _, Nat.zero_le _⟩ (fun r_6 u_5 H locs h_7 hq => ?_)
    obtain ⟨er_6, eu_5⟩ := h_7
    have hq : kAt G A s [(aNw, .inl (cNw, 139, .inr (.inl fNw))), (aVs, .inl (cVs, 64, .inr (.inl fVs))), (aSg, .inl (cSg, 128, .inl fSg)), (aWs, .inl (cWs, 53, .inr (.inl fWs))), (aM, .inr (8, [.ref aNw, .ref rM_kept, .ref rM_isKept, .ref aRf, .int M_at, .int M_fault, .ref aVs, .int M_valueMany, .ref aSg, .int M_signMany, .long M_tells, .int M_way, .int M_wish, .long M_moreTick, .long M_moreForce, .int M_runTurns, .long M_runFirst, .long M_runLast, .ref aWs, .long M_peak, .long M_beside, .int M_besideAt])), (aRf, .inl (cRf, 3, .inl u_5))] H locs := hq
    have hf : ((r_6, M_at, M_fault, M_valueMany, M_signMany, M_tells, M_way, M_runTurns, M_runFirst, M_runLast, M_peak, M_beside, M_besideAt, fNw, fVs, fSg, fWs, u_5) : Int32 × Int32 × Int32 × Int32 × Int32 × Int64 × Int32 × Int32 × Int64 × Int64 × Int64 × Int64 × Int32 × (Nat → Int64) × (Nat → Int64) × (Nat → Int32) × (Nat → Int64) × (Nat → Int32)) = fX8_swaps p1 p2 M_at M_fault M_valueMany M_signMany M_tells M_way M_wish M_moreTick M_moreForce M_runTurns M_runFirst M_runLast M_peak M_beside M_besideAt fNw fVs fSg fWs fRf := by
      exact ((congrArg (fun (r_2 : Int32) => ((if r_2 = 0 then (
    let r_6 : Int32 := (fX8_bad (-2) fRf).1
    let u_5 : Nat → Int32 := (fX8_bad (-2) fRf).2
    (r_6, M_at, M_fault, M_valueMany, M_signMany, M_tells, M_way, M_runTurns, M_runFirst, M_runLast, M_peak, M_beside, M_besideAt, fNw, fVs, fSg, fWs, u_5))
  else (
    let r_9 : Int32 := fX8_in p2.toInt64 0 1
    if r_9 = 0 then (
      let r_17 : Int32 := (fX8_bad (-2) fRf).1
      let u_16 : Nat → Int32 := (fX8_bad (-2) fRf).2
      (r_17, M_at, M_fault, M_valueMany, M_signMany, M_tells, M_way, M_runTurns, M_runFirst, M_runLast, M_peak, M_beside, M_besideAt, fNw, fVs, fSg, fWs, u_16))
    else (
      let u_12 : Int32 × Int32 × Int32 × Int32 × Int64 × Int32 × Int32 × Int64 × Int64 × Int64 × Int64 × Int32 × (Nat → Int64) × (Nat → Int64) × (Nat → Int32) × (Nat → Int64) := fX8_run p1 M_at M_fault M_valueMany M_signMany M_tells M_way M_wish M_moreTick M_moreForce fNw fVs fSg fWs
      if p2 = 0 then (
        (u_12.2.2.2.2.2.2.2.2.2.2.1.toInt32, u_12.1, u_12.2.1, u_12.2.2.1, u_12.2.2.2.1, u_12.2.2.2.2.1, u_12.2.2.2.2.2.1, u_12.2.2.2.2.2.2.1, u_12.2.2.2.2.2.2.2.1, u_12.2.2.2.2.2.2.2.2.1, u_12.2.2.2.2.2.2.2.2.2.1, u_12.2.2.2.2.2.2.2.2.2.2.1, u_12.2.2.2.2.2.2.2.2.2.2.2.1, u_12.2.2.2.2.2.2.2.2.2.2.2.2.1, u_12.2.2.2.2.2.2.2.2.2.2.2.2.2.1, u_12.2.2.2.2.2.2.2.2.2.2.2.2.2.2.1, u_12.2.2.2.2.2.2.2.2.2.2.2.2.2.2.2, fRf))
      else (
        (u_12.2.2.2.2.2.2.2.2.2.2.2.1, u_12.1, u_12.2.1, u_12.2.2.1, u_12.2.2.2.1, u_12.2.2.2.2.1, u_12.2.2.2.2.2.1, u_12.2.2.2.2.2.2.1, u_12.2.2.2.2.2.2.2.1, u_12.2.2.2.2.2.2.2.2.1, u_12.2.2.2.2.2.2.2.2.2.1, u_12.2.2.2.2.2.2.2.2.2.2.1, u_12.2.2.2.2.2.2.2.2.2.2.2.1, u_12.2.2.2.2.2.2.2.2.2.2.2.2.1, u_12.2.2.2.2.2.2.2.2.2.2.2.2.2.1, u_12.2.2.2.2.2.2.2.2.2.2.2.2.2.2.1, u_12.2.2.2.2.2.2.2.2.2.2.2.2.2.2.2, fRf))))) : Int32 × Int32 × Int32 × Int32 × Int32 × Int64 × Int32 × Int32 × Int64 × Int64 × Int64 × Int64 × Int32 × (Nat → Int64) × (Nat → Int64) × (Nat → Int32) × (Nat → Int64) × (Nat → Int32))) er_2.symm).trans ((if_pos c_4).trans ((congrArg (fun (r_6 : Int32) => ((let u_5 : Nat → Int32 := (fX8_bad (-2) fRf).2
  (r_6, M_at, M_fault, M_valueMany, M_signMany, M_tells, M_way, M_runTurns, M_runFirst, M_runLast, M_peak, M_beside, M_besideAt, fNw, fVs, fSg, fWs, u_5)) : Int32 × Int32 × Int32 × Int32 × Int32 × Int64 × Int32 × Int32 × Int64 × Int64 × Int64 × Int64 × Int32 × (Nat → Int64) × (Nat → Int64) × (Nat → Int32) × (Nat → Int64) × (Nat → Int32))) er_6.symm).trans ((congrArg (fun (u_5 : Nat → Int32) => (((r_6, M_at, M_fault, M_valueMany, M_signMany, M_tells, M_way, M_runTurns, M_runFirst, M_runLast, M_peak, M_beside, M_besideAt, fNw, fVs, fSg, fWs, u_5)) : Int32 × Int32 × Int32 × Int32 × Int32 × Int64 × Int32 × Int32 × Int64 × Int64 × Int64 × Int64 × Int32 × (Nat → Int64) × (Nat → Int64) × (Nat → Int32) × (Nat → Int64) × (Nat → Int32))) eu_5.symm))))).symm
    have hf1 := congrArg Prod.fst hf
    have hf2 := congrArg Prod.snd hf
    have en_0 : fNw = fNw := by first | assumption | rfl
    have en_1 : (M_way : Int32) = 0 := by first | assumption | rfl
    exact kk_ei hx hb hr hlocks hK hq [4, 0, 1, 2, 3, 5] (M_at, M_fault, M_valueMany, M_signMany, M_tells, M_way, M_runTurns, M_runFirst, M_runLast, M_peak, M_beside, M_besideAt, fNw, fVs, fSg, fWs, u_5) rfl (by decide) dX8_swaps_23 ⟨hf1, hf2, en_0, en_1⟩
  · skip
    have hn := run8_le (hrun ▸ c_4)
    refine lv_iload_n hx hb dX8_swaps_7 rfl (lv_at hl 2 rfl) ?_
    refine lv_i2l hx hb dX8_swaps_8 rfl ?_
    refine lv_lconst (v := 0) hx hb dX8_swaps_9 (by decide) ?_
    refine lv_lconst (v := 1) hx hb dX8_swaps_10 (by decide) ?_
    refine kk_Si (As := [.long p2.toInt64, .long 0, .long 1]) (rest := []) (wr := [(aM, .inr (8, [.ref aNw, .ref rM_kept, .ref rM_isKept, .ref aRf, .int M_at, .int M_fault, .ref aVs, .int M_valueMany, .ref aSg, .int M_signMany, .long M_tells, .int M_way, .int M_wish, .long M_moreTick, .long M_moreForce, .int M_runTurns, .long M_runFirst, .long M_runLast, .ref aWs, .long M_peak, .long M_beside, .int M_besideAt])), (aNw, .inl (cNw, 139, .inr (.inl fNw))), (aVs, .inl (cVs, 64, .inr (.inl fVs))), (aSg, .inl (cSg, 128, .inl fSg)), (aWs, .inl (cWs, 53, .inr (.inl fWs))), (aRf, .inl (cRf, 3, .inl fRf))]) ⟨hx, hb, hml, hown, hts⟩ (c_X8_in l G p2.toInt64 0 1) (kk_cwS 3 hts hsb wd_156 wd_157 wd_5 wd_158 rfl rfl hd_X8_in ⟨Nat.le_of_ble_eq_true rfl, Nat.le_of_ble_eq_true rfl⟩) hA hK hq [] [0, 1, 2, 3, 4, 5] [] rfl rfl rfl (by decide) (by decide) (by decide) rfl hl.1 rfl (Nat.le_of_ble_eq_true rfl) dX8_swaps_11 ⟨Nat.zero_le _, Nat.zero_le _⟩ (fun r_9 u_8 H locs h_10 hq => ?_)
    obtain ⟨er_9, zr_9⟩ := h_10
    have hq : kAt G A s [(aM, .inr (8, [.ref aNw, .ref rM_kept, .ref rM_isKept, .ref aRf, .int M_at, .int M_fault, .ref aVs, .int M_valueMany, .ref aSg, .int M_signMany, .long M_tells, .int M_way, .int M_wish, .long M_moreTick, .long M_moreForce, .int M_runTurns, .long M_runFirst, .long M_runLast, .ref aWs, .long M_peak, .long M_beside, .int M_besideAt])), (aNw, .inl (cNw, 139, .inr (.inl fNw))), (aVs, .inl (cVs, 64, .inr (.inl fVs))), (aSg, .inl (cSg, 128, .inl fSg)), (aWs, .inl (cWs, 53, .inr (.inl fWs))), (aRf, .inl (cRf, 3, .inl fRf))] H locs := hq
    refine lv_if_ne (tgt := 24) hx hb dX8_swaps_14 (by decide) (fun c_11 => ?_) (fun c_11 => ?_)
    · skip
      refine lv_aload_n hx hb dX8_swaps_24 rfl (lv_at hl 0 rfl) ?_
      refine lv_iload_n hx hb dX8_swaps_25 rfl (lv_at hl 1 rfl) ?_
      refine kk_Vv (As := [.int p1]) (rest := []) (wr := [(aRf, .inl (cRf, 3, .inl fRf))]) ⟨hx, hb, hml, hown, hts⟩ (c_X8_run l G aM aNw aVs aSg aWs rM_kept rM_isKept aRf cNw cVs cSg cWs p1 M_at M_fault M_valueMany M_signMany M_tells M_way M_wish M_moreTick M_moreForce M_runTurns M_runFirst M_runLast M_peak M_beside M_besideAt fNw fVs fSg fWs wn (wy_wh w0) tb hn.2) (kk_cwV 1 hts hsb wd_627 wd_628 wd_629 wd_5 wd_630 rfl rfl hd_X8_run ⟨Nat.le_of_ble_eq_true rfl, Nat.le_of_ble_eq_true rfl⟩) hA hK hq [0, 1, 2, 3, 4] [5] [0, 1, 2, 3] rfl rfl rfl (by decide) (by decide) (by decide) 0 8 rfl rfl rfl rfl hl.1 rfl (Nat.le_of_ble_eq_true rfl) dX8_swaps_26 ⟨Nat.zero_le _, Nat.zero_le _⟩ (fun u_12 H locs h_14 hq => ?_)
      obtain ⟨eu_12, nw_u_12, wy_u_12⟩ := h_14
      have hq : kAt G A s [(aRf, .inl (cRf, 3, .inl fRf)), (aM, .inr (8, [.ref aNw, .ref rM_kept, .ref rM_isKept, .ref aRf, .int u_12.1, .int u_12.2.1, .ref aVs, .int u_12.2.2.1, .ref aSg, .int u_12.2.2.2.1, .long u_12.2.2.2.2.1, .int u_12.2.2.2.2.2.1, .int M_wish, .long M_moreTick, .long M_moreForce, .int u_12.2.2.2.2.2.2.1, .long u_12.2.2.2.2.2.2.2.1, .long u_12.2.2.2.2.2.2.2.2.1, .ref aWs, .long u_12.2.2.2.2.2.2.2.2.2.1, .long u_12.2.2.2.2.2.2.2.2.2.2.1, .int u_12.2.2.2.2.2.2.2.2.2.2.2.1])), (aNw, .inl (cNw, 139, .inr (.inl u_12.2.2.2.2.2.2.2.2.2.2.2.2.1))), (aVs, .inl (cVs, 64, .inr (.inl u_12.2.2.2.2.2.2.2.2.2.2.2.2.2.1))), (aSg, .inl (cSg, 128, .inl u_12.2.2.2.2.2.2.2.2.2.2.2.2.2.2.1)), (aWs, .inl (cWs, 53, .inr (.inl u_12.2.2.2.2.2.2.2.2.2.2.2.2.2.2.2)))] H locs := hq
      refine lv_iload_n hx hb dX8_swaps_29 rfl (lv_at hl 2 rfl) ?_
      refine lv_if_ne (tgt := 41) hx hb dX8_swaps_30 (by decide) (fun c_15 => ?_) (fun c_15 => ?_)
      · skip
        refine lv_aload_n hx hb dX8_swaps_41 rfl (lv_at hl 0 rfl) ?_
        refine kk_get (ci := 8) (v := .int u_12.2.2.2.2.2.2.2.2.2.2.2.1) (C := RX8) (T := TX8) (N := 22) hx hb hts iX8 hown hK hq 1 rfl rfl 21 (by decide) lk0_ rfl dX8_swaps_42 ?_
        have hf : ((u_12.2.2.2.2.2.2.2.2.2.2.2.1, u_12.1, u_12.2.1, u_12.2.2.1, u_12.2.2.2.1, u_12.2.2.2.2.1, u_12.2.2.2.2.2.1, u_12.2.2.2.2.2.2.1, u_12.2.2.2.2.2.2.2.1, u_12.2.2.2.2.2.2.2.2.1, u_12.2.2.2.2.2.2.2.2.2.1, u_12.2.2.2.2.2.2.2.2.2.2.1, u_12.2.2.2.2.2.2.2.2.2.2.2.1, u_12.2.2.2.2.2.2.2.2.2.2.2.2.1, u_12.2.2.2.2.2.2.2.2.2.2.2.2.2.1, u_12.2.2.2.2.2.2.2.2.2.2.2.2.2.2.1, u_12.2.2.2.2.2.2.2.2.2.2.2.2.2.2.2, fRf) : Int32 × Int32 × Int32 × Int32 × Int32 × Int64 × Int32 × Int32 × Int64 × Int64 × Int64 × Int64 × Int32 × (Nat → Int64) × (Nat → Int64) × (Nat → Int32) × (Nat → Int64) × (Nat → Int32)) = fX8_swaps p1 p2 M_at M_fault M_valueMany M_signMany M_tells M_way M_wish M_moreTick M_moreForce M_runTurns M_runFirst M_runLast M_peak M_beside M_besideAt fNw fVs fSg fWs fRf := by
          exact ((congrArg (fun (r_2 : Int32) => ((if r_2 = 0 then (
    let r_6 : Int32 := (fX8_bad (-2) fRf).1
    let u_5 : Nat → Int32 := (fX8_bad (-2) fRf).2
    (r_6, M_at, M_fault, M_valueMany, M_signMany, M_tells, M_way, M_runTurns, M_runFirst, M_runLast, M_peak, M_beside, M_besideAt, fNw, fVs, fSg, fWs, u_5))
  else (
    let r_9 : Int32 := fX8_in p2.toInt64 0 1
    if r_9 = 0 then (
      let r_17 : Int32 := (fX8_bad (-2) fRf).1
      let u_16 : Nat → Int32 := (fX8_bad (-2) fRf).2
      (r_17, M_at, M_fault, M_valueMany, M_signMany, M_tells, M_way, M_runTurns, M_runFirst, M_runLast, M_peak, M_beside, M_besideAt, fNw, fVs, fSg, fWs, u_16))
    else (
      let u_12 : Int32 × Int32 × Int32 × Int32 × Int64 × Int32 × Int32 × Int64 × Int64 × Int64 × Int64 × Int32 × (Nat → Int64) × (Nat → Int64) × (Nat → Int32) × (Nat → Int64) := fX8_run p1 M_at M_fault M_valueMany M_signMany M_tells M_way M_wish M_moreTick M_moreForce fNw fVs fSg fWs
      if p2 = 0 then (
        (u_12.2.2.2.2.2.2.2.2.2.2.1.toInt32, u_12.1, u_12.2.1, u_12.2.2.1, u_12.2.2.2.1, u_12.2.2.2.2.1, u_12.2.2.2.2.2.1, u_12.2.2.2.2.2.2.1, u_12.2.2.2.2.2.2.2.1, u_12.2.2.2.2.2.2.2.2.1, u_12.2.2.2.2.2.2.2.2.2.1, u_12.2.2.2.2.2.2.2.2.2.2.1, u_12.2.2.2.2.2.2.2.2.2.2.2.1, u_12.2.2.2.2.2.2.2.2.2.2.2.2.1, u_12.2.2.2.2.2.2.2.2.2.2.2.2.2.1, u_12.2.2.2.2.2.2.2.2.2.2.2.2.2.2.1, u_12.2.2.2.2.2.2.2.2.2.2.2.2.2.2.2, fRf))
      else (
        (u_12.2.2.2.2.2.2.2.2.2.2.2.1, u_12.1, u_12.2.1, u_12.2.2.1, u_12.2.2.2.1, u_12.2.2.2.2.1, u_12.2.2.2.2.2.1, u_12.2.2.2.2.2.2.1, u_12.2.2.2.2.2.2.2.1, u_12.2.2.2.2.2.2.2.2.1, u_12.2.2.2.2.2.2.2.2.2.1, u_12.2.2.2.2.2.2.2.2.2.2.1, u_12.2.2.2.2.2.2.2.2.2.2.2.1, u_12.2.2.2.2.2.2.2.2.2.2.2.2.1, u_12.2.2.2.2.2.2.2.2.2.2.2.2.2.1, u_12.2.2.2.2.2.2.2.2.2.2.2.2.2.2.1, u_12.2.2.2.2.2.2.2.2.2.2.2.2.2.2.2, fRf))))) : Int32 × Int32 × Int32 × Int32 × Int32 × Int64 × Int32 × Int32 × Int64 × Int64 × Int64 × Int64 × Int32 × (Nat → Int64) × (Nat → Int64) × (Nat → Int32) × (Nat → Int64) × (Nat → Int32))) er_2.symm).trans ((if_neg c_4).trans ((congrArg (fun (r_9 : Int32) => ((if r_9 = 0 then (
    let r_17 : Int32 := (fX8_bad (-2) fRf).1
    let u_16 : Nat → Int32 := (fX8_bad (-2) fRf).2
    (r_17, M_at, M_fault, M_valueMany, M_signMany, M_tells, M_way, M_runTurns, M_runFirst, M_runLast, M_peak, M_beside, M_besideAt, fNw, fVs, fSg, fWs, u_16))
  else (
    let u_12 : Int32 × Int32 × Int32 × Int32 × Int64 × Int32 × Int32 × Int64 × Int64 × Int64 × Int64 × Int32 × (Nat → Int64) × (Nat → Int64) × (Nat → Int32) × (Nat → Int64) := fX8_run p1 M_at M_fault M_valueMany M_signMany M_tells M_way M_wish M_moreTick M_moreForce fNw fVs fSg fWs
    if p2 = 0 then (
      (u_12.2.2.2.2.2.2.2.2.2.2.1.toInt32, u_12.1, u_12.2.1, u_12.2.2.1, u_12.2.2.2.1, u_12.2.2.2.2.1, u_12.2.2.2.2.2.1, u_12.2.2.2.2.2.2.1, u_12.2.2.2.2.2.2.2.1, u_12.2.2.2.2.2.2.2.2.1, u_12.2.2.2.2.2.2.2.2.2.1, u_12.2.2.2.2.2.2.2.2.2.2.1, u_12.2.2.2.2.2.2.2.2.2.2.2.1, u_12.2.2.2.2.2.2.2.2.2.2.2.2.1, u_12.2.2.2.2.2.2.2.2.2.2.2.2.2.1, u_12.2.2.2.2.2.2.2.2.2.2.2.2.2.2.1, u_12.2.2.2.2.2.2.2.2.2.2.2.2.2.2.2, fRf))
    else (
      (u_12.2.2.2.2.2.2.2.2.2.2.2.1, u_12.1, u_12.2.1, u_12.2.2.1, u_12.2.2.2.1, u_12.2.2.2.2.1, u_12.2.2.2.2.2.1, u_12.2.2.2.2.2.2.1, u_12.2.2.2.2.2.2.2.1, u_12.2.2.2.2.2.2.2.2.1, u_12.2.2.2.2.2.2.2.2.2.1, u_12.2.2.2.2.2.2.2.2.2.2.1, u_12.2.2.2.2.2.2.2.2.2.2.2.1, u_12.2.2.2.2.2.2.2.2.2.2.2.2.1, u_12.2.2.2.2.2.2.2.2.2.2.2.2.2.1, u_12.2.2.2.2.2.2.2.2.2.2.2.2.2.2.1, u_12.2.2.2.2.2.2.2.2.2.2.2.2.2.2.2, fRf)))) : Int32 × Int32 × Int32 × Int32 × Int32 × Int64 × Int32 × Int32 × Int64 × Int64 × Int64 × Int64 × Int32 × (Nat → Int64) × (Nat → Int64) × (Nat → Int32) × (Nat → Int64) × (Nat → Int32))) er_9.symm).trans ((if_neg c_11).trans ((congrArg (fun (u_12 : Int32 × Int32 × Int32 × Int32 × Int64 × Int32 × Int32 × Int64 × Int64 × Int64 × Int64 × Int32 × (Nat → Int64) × (Nat → Int64) × (Nat → Int32) × (Nat → Int64)) => ((if p2 = 0 then (
    (u_12.2.2.2.2.2.2.2.2.2.2.1.toInt32, u_12.1, u_12.2.1, u_12.2.2.1, u_12.2.2.2.1, u_12.2.2.2.2.1, u_12.2.2.2.2.2.1, u_12.2.2.2.2.2.2.1, u_12.2.2.2.2.2.2.2.1, u_12.2.2.2.2.2.2.2.2.1, u_12.2.2.2.2.2.2.2.2.2.1, u_12.2.2.2.2.2.2.2.2.2.2.1, u_12.2.2.2.2.2.2.2.2.2.2.2.1, u_12.2.2.2.2.2.2.2.2.2.2.2.2.1, u_12.2.2.2.2.2.2.2.2.2.2.2.2.2.1, u_12.2.2.2.2.2.2.2.2.2.2.2.2.2.2.1, u_12.2.2.2.2.2.2.2.2.2.2.2.2.2.2.2, fRf))
  else (
    (u_12.2.2.2.2.2.2.2.2.2.2.2.1, u_12.1, u_12.2.1, u_12.2.2.1, u_12.2.2.2.1, u_12.2.2.2.2.1, u_12.2.2.2.2.2.1, u_12.2.2.2.2.2.2.1, u_12.2.2.2.2.2.2.2.1, u_12.2.2.2.2.2.2.2.2.1, u_12.2.2.2.2.2.2.2.2.2.1, u_12.2.2.2.2.2.2.2.2.2.2.1, u_12.2.2.2.2.2.2.2.2.2.2.2.1, u_12.2.2.2.2.2.2.2.2.2.2.2.2.1, u_12.2.2.2.2.2.2.2.2.2.2.2.2.2.1, u_12.2.2.2.2.2.2.2.2.2.2.2.2.2.2.1, u_12.2.2.2.2.2.2.2.2.2.2.2.2.2.2.2, fRf))) : Int32 × Int32 × Int32 × Int32 × Int32 × Int64 × Int32 × Int32 × Int64 × Int64 × Int64 × Int64 × Int32 × (Nat → Int64) × (Nat → Int64) × (Nat → Int32) × (Nat → Int64) × (Nat → Int32))) eu_12.symm).trans ((if_neg c_15))))))).symm
        have hf1 := congrArg Prod.fst hf
        have hf2 := congrArg Prod.snd hf
        have en_0 : u_12.2.2.2.2.2.2.2.2.2.2.2.2.1 = fNw := by first | assumption | rfl
        have en_1 : (u_12.2.2.2.2.2.1 : Int32) = 0 := by first | assumption | rfl
        exact kk_ei hx hb hr hlocks hK hq [1, 2, 3, 4, 5, 0] (u_12.1, u_12.2.1, u_12.2.2.1, u_12.2.2.2.1, u_12.2.2.2.2.1, u_12.2.2.2.2.2.1, u_12.2.2.2.2.2.2.1, u_12.2.2.2.2.2.2.2.1, u_12.2.2.2.2.2.2.2.2.1, u_12.2.2.2.2.2.2.2.2.2.1, u_12.2.2.2.2.2.2.2.2.2.2.1, u_12.2.2.2.2.2.2.2.2.2.2.2.1, u_12.2.2.2.2.2.2.2.2.2.2.2.2.1, u_12.2.2.2.2.2.2.2.2.2.2.2.2.2.1, u_12.2.2.2.2.2.2.2.2.2.2.2.2.2.2.1, u_12.2.2.2.2.2.2.2.2.2.2.2.2.2.2.2, fRf) rfl (by decide) dX8_swaps_45 ⟨hf1, hf2, en_0, en_1⟩
      · skip
        refine lv_aload_n hx hb dX8_swaps_33 rfl (lv_at hl 0 rfl) ?_
        refine kk_get (ci := 8) (v := .long u_12.2.2.2.2.2.2.2.2.2.2.1) (C := RX8) (T := TX8) (N := 22) hx hb hts iX8 hown hK hq 1 rfl rfl 20 (by decide) lk1_ rfl dX8_swaps_34 ?_
        refine lv_l2i hx hb dX8_swaps_37 rfl ?_
        refine lv_goto (tgt := 45) hx hb dX8_swaps_38 (by decide) ?_
        have hf : ((u_12.2.2.2.2.2.2.2.2.2.2.1.toInt32, u_12.1, u_12.2.1, u_12.2.2.1, u_12.2.2.2.1, u_12.2.2.2.2.1, u_12.2.2.2.2.2.1, u_12.2.2.2.2.2.2.1, u_12.2.2.2.2.2.2.2.1, u_12.2.2.2.2.2.2.2.2.1, u_12.2.2.2.2.2.2.2.2.2.1, u_12.2.2.2.2.2.2.2.2.2.2.1, u_12.2.2.2.2.2.2.2.2.2.2.2.1, u_12.2.2.2.2.2.2.2.2.2.2.2.2.1, u_12.2.2.2.2.2.2.2.2.2.2.2.2.2.1, u_12.2.2.2.2.2.2.2.2.2.2.2.2.2.2.1, u_12.2.2.2.2.2.2.2.2.2.2.2.2.2.2.2, fRf) : Int32 × Int32 × Int32 × Int32 × Int32 × Int64 × Int32 × Int32 × Int64 × Int64 × Int64 × Int64 × Int32 × (Nat → Int64) × (Nat → Int64) × (Nat → Int32) × (Nat → Int64) × (Nat → Int32)) = fX8_swaps p1 p2 M_at M_fault M_valueMany M_signMany M_tells M_way M_wish M_moreTick M_moreForce M_runTurns M_runFirst M_runLast M_peak M_beside M_besideAt fNw fVs fSg fWs fRf := by
          exact ((congrArg (fun (r_2 : Int32) => ((if r_2 = 0 then (
    let r_6 : Int32 := (fX8_bad (-2) fRf).1
    let u_5 : Nat → Int32 := (fX8_bad (-2) fRf).2
    (r_6, M_at, M_fault, M_valueMany, M_signMany, M_tells, M_way, M_runTurns, M_runFirst, M_runLast, M_peak, M_beside, M_besideAt, fNw, fVs, fSg, fWs, u_5))
  else (
    let r_9 : Int32 := fX8_in p2.toInt64 0 1
    if r_9 = 0 then (
      let r_17 : Int32 := (fX8_bad (-2) fRf).1
      let u_16 : Nat → Int32 := (fX8_bad (-2) fRf).2
      (r_17, M_at, M_fault, M_valueMany, M_signMany, M_tells, M_way, M_runTurns, M_runFirst, M_runLast, M_peak, M_beside, M_besideAt, fNw, fVs, fSg, fWs, u_16))
    else (
      let u_12 : Int32 × Int32 × Int32 × Int32 × Int64 × Int32 × Int32 × Int64 × Int64 × Int64 × Int64 × Int32 × (Nat → Int64) × (Nat → Int64) × (Nat → Int32) × (Nat → Int64) := fX8_run p1 M_at M_fault M_valueMany M_signMany M_tells M_way M_wish M_moreTick M_moreForce fNw fVs fSg fWs
      if p2 = 0 then (
        (u_12.2.2.2.2.2.2.2.2.2.2.1.toInt32, u_12.1, u_12.2.1, u_12.2.2.1, u_12.2.2.2.1, u_12.2.2.2.2.1, u_12.2.2.2.2.2.1, u_12.2.2.2.2.2.2.1, u_12.2.2.2.2.2.2.2.1, u_12.2.2.2.2.2.2.2.2.1, u_12.2.2.2.2.2.2.2.2.2.1, u_12.2.2.2.2.2.2.2.2.2.2.1, u_12.2.2.2.2.2.2.2.2.2.2.2.1, u_12.2.2.2.2.2.2.2.2.2.2.2.2.1, u_12.2.2.2.2.2.2.2.2.2.2.2.2.2.1, u_12.2.2.2.2.2.2.2.2.2.2.2.2.2.2.1, u_12.2.2.2.2.2.2.2.2.2.2.2.2.2.2.2, fRf))
      else (
        (u_12.2.2.2.2.2.2.2.2.2.2.2.1, u_12.1, u_12.2.1, u_12.2.2.1, u_12.2.2.2.1, u_12.2.2.2.2.1, u_12.2.2.2.2.2.1, u_12.2.2.2.2.2.2.1, u_12.2.2.2.2.2.2.2.1, u_12.2.2.2.2.2.2.2.2.1, u_12.2.2.2.2.2.2.2.2.2.1, u_12.2.2.2.2.2.2.2.2.2.2.1, u_12.2.2.2.2.2.2.2.2.2.2.2.1, u_12.2.2.2.2.2.2.2.2.2.2.2.2.1, u_12.2.2.2.2.2.2.2.2.2.2.2.2.2.1, u_12.2.2.2.2.2.2.2.2.2.2.2.2.2.2.1, u_12.2.2.2.2.2.2.2.2.2.2.2.2.2.2.2, fRf))))) : Int32 × Int32 × Int32 × Int32 × Int32 × Int64 × Int32 × Int32 × Int64 × Int64 × Int64 × Int64 × Int32 × (Nat → Int64) × (Nat → Int64) × (Nat → Int32) × (Nat → Int64) × (Nat → Int32))) er_2.symm).trans ((if_neg c_4).trans ((congrArg (fun (r_9 : Int32) => ((if r_9 = 0 then (
    let r_17 : Int32 := (fX8_bad (-2) fRf).1
    let u_16 : Nat → Int32 := (fX8_bad (-2) fRf).2
    (r_17, M_at, M_fault, M_valueMany, M_signMany, M_tells, M_way, M_runTurns, M_runFirst, M_runLast, M_peak, M_beside, M_besideAt, fNw, fVs, fSg, fWs, u_16))
  else (
    let u_12 : Int32 × Int32 × Int32 × Int32 × Int64 × Int32 × Int32 × Int64 × Int64 × Int64 × Int64 × Int32 × (Nat → Int64) × (Nat → Int64) × (Nat → Int32) × (Nat → Int64) := fX8_run p1 M_at M_fault M_valueMany M_signMany M_tells M_way M_wish M_moreTick M_moreForce fNw fVs fSg fWs
    if p2 = 0 then (
      (u_12.2.2.2.2.2.2.2.2.2.2.1.toInt32, u_12.1, u_12.2.1, u_12.2.2.1, u_12.2.2.2.1, u_12.2.2.2.2.1, u_12.2.2.2.2.2.1, u_12.2.2.2.2.2.2.1, u_12.2.2.2.2.2.2.2.1, u_12.2.2.2.2.2.2.2.2.1, u_12.2.2.2.2.2.2.2.2.2.1, u_12.2.2.2.2.2.2.2.2.2.2.1, u_12.2.2.2.2.2.2.2.2.2.2.2.1, u_12.2.2.2.2.2.2.2.2.2.2.2.2.1, u_12.2.2.2.2.2.2.2.2.2.2.2.2.2.1, u_12.2.2.2.2.2.2.2.2.2.2.2.2.2.2.1, u_12.2.2.2.2.2.2.2.2.2.2.2.2.2.2.2, fRf))
    else (
      (u_12.2.2.2.2.2.2.2.2.2.2.2.1, u_12.1, u_12.2.1, u_12.2.2.1, u_12.2.2.2.1, u_12.2.2.2.2.1, u_12.2.2.2.2.2.1, u_12.2.2.2.2.2.2.1, u_12.2.2.2.2.2.2.2.1, u_12.2.2.2.2.2.2.2.2.1, u_12.2.2.2.2.2.2.2.2.2.1, u_12.2.2.2.2.2.2.2.2.2.2.1, u_12.2.2.2.2.2.2.2.2.2.2.2.1, u_12.2.2.2.2.2.2.2.2.2.2.2.2.1, u_12.2.2.2.2.2.2.2.2.2.2.2.2.2.1, u_12.2.2.2.2.2.2.2.2.2.2.2.2.2.2.1, u_12.2.2.2.2.2.2.2.2.2.2.2.2.2.2.2, fRf)))) : Int32 × Int32 × Int32 × Int32 × Int32 × Int64 × Int32 × Int32 × Int64 × Int64 × Int64 × Int64 × Int32 × (Nat → Int64) × (Nat → Int64) × (Nat → Int32) × (Nat → Int64) × (Nat → Int32))) er_9.symm).trans ((if_neg c_11).trans ((congrArg (fun (u_12 : Int32 × Int32 × Int32 × Int32 × Int64 × Int32 × Int32 × Int64 × Int64 × Int64 × Int64 × Int32 × (Nat → Int64) × (Nat → Int64) × (Nat → Int32) × (Nat → Int64)) => ((if p2 = 0 then (
    (u_12.2.2.2.2.2.2.2.2.2.2.1.toInt32, u_12.1, u_12.2.1, u_12.2.2.1, u_12.2.2.2.1, u_12.2.2.2.2.1, u_12.2.2.2.2.2.1, u_12.2.2.2.2.2.2.1, u_12.2.2.2.2.2.2.2.1, u_12.2.2.2.2.2.2.2.2.1, u_12.2.2.2.2.2.2.2.2.2.1, u_12.2.2.2.2.2.2.2.2.2.2.1, u_12.2.2.2.2.2.2.2.2.2.2.2.1, u_12.2.2.2.2.2.2.2.2.2.2.2.2.1, u_12.2.2.2.2.2.2.2.2.2.2.2.2.2.1, u_12.2.2.2.2.2.2.2.2.2.2.2.2.2.2.1, u_12.2.2.2.2.2.2.2.2.2.2.2.2.2.2.2, fRf))
  else (
    (u_12.2.2.2.2.2.2.2.2.2.2.2.1, u_12.1, u_12.2.1, u_12.2.2.1, u_12.2.2.2.1, u_12.2.2.2.2.1, u_12.2.2.2.2.2.1, u_12.2.2.2.2.2.2.1, u_12.2.2.2.2.2.2.2.1, u_12.2.2.2.2.2.2.2.2.1, u_12.2.2.2.2.2.2.2.2.2.1, u_12.2.2.2.2.2.2.2.2.2.2.1, u_12.2.2.2.2.2.2.2.2.2.2.2.1, u_12.2.2.2.2.2.2.2.2.2.2.2.2.1, u_12.2.2.2.2.2.2.2.2.2.2.2.2.2.1, u_12.2.2.2.2.2.2.2.2.2.2.2.2.2.2.1, u_12.2.2.2.2.2.2.2.2.2.2.2.2.2.2.2, fRf))) : Int32 × Int32 × Int32 × Int32 × Int32 × Int64 × Int32 × Int32 × Int64 × Int64 × Int64 × Int64 × Int32 × (Nat → Int64) × (Nat → Int64) × (Nat → Int32) × (Nat → Int64) × (Nat → Int32))) eu_12.symm).trans ((if_pos c_15))))))).symm
        have hf1 := congrArg Prod.fst hf
        have hf2 := congrArg Prod.snd hf
        have en_0 : u_12.2.2.2.2.2.2.2.2.2.2.2.2.1 = fNw := by first | assumption | rfl
        have en_1 : (u_12.2.2.2.2.2.1 : Int32) = 0 := by first | assumption | rfl
        exact kk_ei hx hb hr hlocks hK hq [1, 2, 3, 4, 5, 0] (u_12.1, u_12.2.1, u_12.2.2.1, u_12.2.2.2.1, u_12.2.2.2.2.1, u_12.2.2.2.2.2.1, u_12.2.2.2.2.2.2.1, u_12.2.2.2.2.2.2.2.1, u_12.2.2.2.2.2.2.2.2.1, u_12.2.2.2.2.2.2.2.2.2.1, u_12.2.2.2.2.2.2.2.2.2.2.1, u_12.2.2.2.2.2.2.2.2.2.2.2.1, u_12.2.2.2.2.2.2.2.2.2.2.2.2.1, u_12.2.2.2.2.2.2.2.2.2.2.2.2.2.1, u_12.2.2.2.2.2.2.2.2.2.2.2.2.2.2.1, u_12.2.2.2.2.2.2.2.2.2.2.2.2.2.2.2, fRf) rfl (by decide) dX8_swaps_45 ⟨hf1, hf2, en_0, en_1⟩
    · skip
      refine lv_aload_n hx hb dX8_swaps_17 rfl (lv_at hl 0 rfl) ?_
      refine lv_bipush (v := -2) hx hb dX8_swaps_18 (by decide) ?_
      refine kk_Vi (As := [.int (-2)]) (rest := []) (wr := [(aNw, .inl (cNw, 139, .inr (.inl fNw))), (aVs, .inl (cVs, 64, .inr (.inl fVs))), (aSg, .inl (cSg, 128, .inl fSg)), (aWs, .inl (cWs, 53, .inr (.inl fWs)))]) ⟨hx, hb, hml, hown, hts⟩ (c_X8_bad l G aM aRf aNw rM_kept rM_isKept aVs aSg aWs cRf (-2) M_at M_fault M_valueMany M_signMany M_tells M_way M_wish M_moreTick M_moreForce M_runTurns M_runFirst M_runLast M_peak M_beside M_besideAt fRf) (kk_cwV 1 hts hsb wd_159 wd_160 wd_161 wd_5 wd_162 rfl rfl hd_X8_bad ⟨Nat.le_of_ble_eq_true rfl, Nat.le_of_ble_eq_true rfl⟩) hA hK hq [0, 5] [1, 2, 3, 4] [4] rfl rfl rfl (by decide) (by decide) (by decide) 0 8 rfl rfl rfl rfl hl.1 rfl (Nat.le_of_ble_eq_true rfl) dX8_swaps_20 ⟨Nat.zero_le _, Nat.zero_le _⟩ (fun r_17 u_16 H locs h_18 hq => ?_)
      obtain ⟨er_17, eu_16⟩ := h_18
      have hq : kAt G A s [(aNw, .inl (cNw, 139, .inr (.inl fNw))), (aVs, .inl (cVs, 64, .inr (.inl fVs))), (aSg, .inl (cSg, 128, .inl fSg)), (aWs, .inl (cWs, 53, .inr (.inl fWs))), (aM, .inr (8, [.ref aNw, .ref rM_kept, .ref rM_isKept, .ref aRf, .int M_at, .int M_fault, .ref aVs, .int M_valueMany, .ref aSg, .int M_signMany, .long M_tells, .int M_way, .int M_wish, .long M_moreTick, .long M_moreForce, .int M_runTurns, .long M_runFirst, .long M_runLast, .ref aWs, .long M_peak, .long M_beside, .int M_besideAt])), (aRf, .inl (cRf, 3, .inl u_16))] H locs := hq
      have hf : ((r_17, M_at, M_fault, M_valueMany, M_signMany, M_tells, M_way, M_runTurns, M_runFirst, M_runLast, M_peak, M_beside, M_besideAt, fNw, fVs, fSg, fWs, u_16) : Int32 × Int32 × Int32 × Int32 × Int32 × Int64 × Int32 × Int32 × Int64 × Int64 × Int64 × Int64 × Int32 × (Nat → Int64) × (Nat → Int64) × (Nat → Int32) × (Nat → Int64) × (Nat → Int32)) = fX8_swaps p1 p2 M_at M_fault M_valueMany M_signMany M_tells M_way M_wish M_moreTick M_moreForce M_runTurns M_runFirst M_runLast M_peak M_beside M_besideAt fNw fVs fSg fWs fRf := by
        exact ((congrArg (fun (r_2 : Int32) => ((if r_2 = 0 then (
    let r_6 : Int32 := (fX8_bad (-2) fRf).1
    let u_5 : Nat → Int32 := (fX8_bad (-2) fRf).2
    (r_6, M_at, M_fault, M_valueMany, M_signMany, M_tells, M_way, M_runTurns, M_runFirst, M_runLast, M_peak, M_beside, M_besideAt, fNw, fVs, fSg, fWs, u_5))
  else (
    let r_9 : Int32 := fX8_in p2.toInt64 0 1
    if r_9 = 0 then (
      let r_17 : Int32 := (fX8_bad (-2) fRf).1
      let u_16 : Nat → Int32 := (fX8_bad (-2) fRf).2
      (r_17, M_at, M_fault, M_valueMany, M_signMany, M_tells, M_way, M_runTurns, M_runFirst, M_runLast, M_peak, M_beside, M_besideAt, fNw, fVs, fSg, fWs, u_16))
    else (
      let u_12 : Int32 × Int32 × Int32 × Int32 × Int64 × Int32 × Int32 × Int64 × Int64 × Int64 × Int64 × Int32 × (Nat → Int64) × (Nat → Int64) × (Nat → Int32) × (Nat → Int64) := fX8_run p1 M_at M_fault M_valueMany M_signMany M_tells M_way M_wish M_moreTick M_moreForce fNw fVs fSg fWs
      if p2 = 0 then (
        (u_12.2.2.2.2.2.2.2.2.2.2.1.toInt32, u_12.1, u_12.2.1, u_12.2.2.1, u_12.2.2.2.1, u_12.2.2.2.2.1, u_12.2.2.2.2.2.1, u_12.2.2.2.2.2.2.1, u_12.2.2.2.2.2.2.2.1, u_12.2.2.2.2.2.2.2.2.1, u_12.2.2.2.2.2.2.2.2.2.1, u_12.2.2.2.2.2.2.2.2.2.2.1, u_12.2.2.2.2.2.2.2.2.2.2.2.1, u_12.2.2.2.2.2.2.2.2.2.2.2.2.1, u_12.2.2.2.2.2.2.2.2.2.2.2.2.2.1, u_12.2.2.2.2.2.2.2.2.2.2.2.2.2.2.1, u_12.2.2.2.2.2.2.2.2.2.2.2.2.2.2.2, fRf))
      else (
        (u_12.2.2.2.2.2.2.2.2.2.2.2.1, u_12.1, u_12.2.1, u_12.2.2.1, u_12.2.2.2.1, u_12.2.2.2.2.1, u_12.2.2.2.2.2.1, u_12.2.2.2.2.2.2.1, u_12.2.2.2.2.2.2.2.1, u_12.2.2.2.2.2.2.2.2.1, u_12.2.2.2.2.2.2.2.2.2.1, u_12.2.2.2.2.2.2.2.2.2.2.1, u_12.2.2.2.2.2.2.2.2.2.2.2.1, u_12.2.2.2.2.2.2.2.2.2.2.2.2.1, u_12.2.2.2.2.2.2.2.2.2.2.2.2.2.1, u_12.2.2.2.2.2.2.2.2.2.2.2.2.2.2.1, u_12.2.2.2.2.2.2.2.2.2.2.2.2.2.2.2, fRf))))) : Int32 × Int32 × Int32 × Int32 × Int32 × Int64 × Int32 × Int32 × Int64 × Int64 × Int64 × Int64 × Int32 × (Nat → Int64) × (Nat → Int64) × (Nat → Int32) × (Nat → Int64) × (Nat → Int32))) er_2.symm).trans ((if_neg c_4).trans ((congrArg (fun (r_9 : Int32) => ((if r_9 = 0 then (
    let r_17 : Int32 := (fX8_bad (-2) fRf).1
    let u_16 : Nat → Int32 := (fX8_bad (-2) fRf).2
    (r_17, M_at, M_fault, M_valueMany, M_signMany, M_tells, M_way, M_runTurns, M_runFirst, M_runLast, M_peak, M_beside, M_besideAt, fNw, fVs, fSg, fWs, u_16))
  else (
    let u_12 : Int32 × Int32 × Int32 × Int32 × Int64 × Int32 × Int32 × Int64 × Int64 × Int64 × Int64 × Int32 × (Nat → Int64) × (Nat → Int64) × (Nat → Int32) × (Nat → Int64) := fX8_run p1 M_at M_fault M_valueMany M_signMany M_tells M_way M_wish M_moreTick M_moreForce fNw fVs fSg fWs
    if p2 = 0 then (
      (u_12.2.2.2.2.2.2.2.2.2.2.1.toInt32, u_12.1, u_12.2.1, u_12.2.2.1, u_12.2.2.2.1, u_12.2.2.2.2.1, u_12.2.2.2.2.2.1, u_12.2.2.2.2.2.2.1, u_12.2.2.2.2.2.2.2.1, u_12.2.2.2.2.2.2.2.2.1, u_12.2.2.2.2.2.2.2.2.2.1, u_12.2.2.2.2.2.2.2.2.2.2.1, u_12.2.2.2.2.2.2.2.2.2.2.2.1, u_12.2.2.2.2.2.2.2.2.2.2.2.2.1, u_12.2.2.2.2.2.2.2.2.2.2.2.2.2.1, u_12.2.2.2.2.2.2.2.2.2.2.2.2.2.2.1, u_12.2.2.2.2.2.2.2.2.2.2.2.2.2.2.2, fRf))
    else (
      (u_12.2.2.2.2.2.2.2.2.2.2.2.1, u_12.1, u_12.2.1, u_12.2.2.1, u_12.2.2.2.1, u_12.2.2.2.2.1, u_12.2.2.2.2.2.1, u_12.2.2.2.2.2.2.1, u_12.2.2.2.2.2.2.2.1, u_12.2.2.2.2.2.2.2.2.1, u_12.2.2.2.2.2.2.2.2.2.1, u_12.2.2.2.2.2.2.2.2.2.2.1, u_12.2.2.2.2.2.2.2.2.2.2.2.1, u_12.2.2.2.2.2.2.2.2.2.2.2.2.1, u_12.2.2.2.2.2.2.2.2.2.2.2.2.2.1, u_12.2.2.2.2.2.2.2.2.2.2.2.2.2.2.1, u_12.2.2.2.2.2.2.2.2.2.2.2.2.2.2.2, fRf)))) : Int32 × Int32 × Int32 × Int32 × Int32 × Int64 × Int32 × Int32 × Int64 × Int64 × Int64 × Int64 × Int32 × (Nat → Int64) × (Nat → Int64) × (Nat → Int32) × (Nat → Int64) × (Nat → Int32))) er_9.symm).trans ((if_pos c_11).trans ((congrArg (fun (r_17 : Int32) => ((let u_16 : Nat → Int32 := (fX8_bad (-2) fRf).2
  (r_17, M_at, M_fault, M_valueMany, M_signMany, M_tells, M_way, M_runTurns, M_runFirst, M_runLast, M_peak, M_beside, M_besideAt, fNw, fVs, fSg, fWs, u_16)) : Int32 × Int32 × Int32 × Int32 × Int32 × Int64 × Int32 × Int32 × Int64 × Int64 × Int64 × Int64 × Int32 × (Nat → Int64) × (Nat → Int64) × (Nat → Int32) × (Nat → Int64) × (Nat → Int32))) er_17.symm).trans ((congrArg (fun (u_16 : Nat → Int32) => (((r_17, M_at, M_fault, M_valueMany, M_signMany, M_tells, M_way, M_runTurns, M_runFirst, M_runLast, M_peak, M_beside, M_besideAt, fNw, fVs, fSg, fWs, u_16)) : Int32 × Int32 × Int32 × Int32 × Int32 × Int64 × Int32 × Int32 × Int64 × Int64 × Int64 × Int64 × Int32 × (Nat → Int64) × (Nat → Int64) × (Nat → Int32) × (Nat → Int64) × (Nat → Int32))) eu_16.symm))))))).symm
      have hf1 := congrArg Prod.fst hf
      have hf2 := congrArg Prod.snd hf
      have en_0 : fNw = fNw := by first | assumption | rfl
      have en_1 : (M_way : Int32) = 0 := by first | assumption | rfl
      exact kk_ei hx hb hr hlocks hK hq [4, 0, 1, 2, 3, 5] (M_at, M_fault, M_valueMany, M_signMany, M_tells, M_way, M_runTurns, M_runFirst, M_runLast, M_peak, M_beside, M_besideAt, fNw, fVs, fSg, fWs, u_16) rfl (by decide) dX8_swaps_23 ⟨hf1, hf2, en_0, en_1⟩
def fX8_worthOf (p1 : Int32) (p2 : Int32) (p3 : Int32) (M_at : Int32) (M_fault : Int32) (M_valueMany : Int32) (M_signMany : Int32) (M_tells : Int64) (M_way : Int32) (M_wish : Int32) (M_moreTick : Int64) (M_moreForce : Int64) (fNw : Nat → Int64) (fVs : Nat → Int64) (fSg : Nat → Int32) (fWs : Nat → Int64) : Int32 × Int32 × Int32 × Int32 × Int32 × Int64 × Int32 × Int64 × Int64 × Int32 × Int64 × Int64 × Int64 × Int64 × Int32 × (Nat → Int64) × (Nat → Int64) × (Nat → Int32) × (Nat → Int64) :=
  let u_1 : Int32 × Int32 × Int32 × Int32 × Int64 × Int32 × Int32 × Int64 × Int64 × Int64 × Int64 × Int32 × (Nat → Int64) × (Nat → Int64) × (Nat → Int32) × (Nat → Int64) := fX8_run p3 M_at M_fault M_valueMany M_signMany M_tells M_way M_wish M_moreTick M_moreForce fNw fVs fSg fWs
  let moreTick_4 : Int64 := (u_1.2.2.2.2.2.2.2.2.2.2.2.2.1 5) + p1.toInt64
  let u_5 : Int32 × Int32 × Int32 × Int32 × Int64 × Int32 × Int32 × Int64 × Int64 × Int64 × Int64 × Int32 × (Nat → Int64) × (Nat → Int64) × (Nat → Int32) × (Nat → Int64) := fX8_run p3 u_1.1 u_1.2.1 u_1.2.2.1 u_1.2.2.2.1 u_1.2.2.2.2.1 u_1.2.2.2.2.2.1 M_wish moreTick_4 p2.toInt64 u_1.2.2.2.2.2.2.2.2.2.2.2.2.1 u_1.2.2.2.2.2.2.2.2.2.2.2.2.2.1 u_1.2.2.2.2.2.2.2.2.2.2.2.2.2.2.1 u_1.2.2.2.2.2.2.2.2.2.2.2.2.2.2.2
  ((u_5.2.2.2.2.2.2.2.2.2.1 - u_1.2.2.2.2.2.2.2.2.2.1).toInt32, u_5.1, u_5.2.1, u_5.2.2.1, u_5.2.2.2.1, u_5.2.2.2.2.1, u_5.2.2.2.2.2.1, (-1), p2.toInt64, u_5.2.2.2.2.2.2.1, u_5.2.2.2.2.2.2.2.1, u_5.2.2.2.2.2.2.2.2.1, u_5.2.2.2.2.2.2.2.2.2.1, u_5.2.2.2.2.2.2.2.2.2.2.1, u_5.2.2.2.2.2.2.2.2.2.2.2.1, u_5.2.2.2.2.2.2.2.2.2.2.2.2.1, u_5.2.2.2.2.2.2.2.2.2.2.2.2.2.1, u_5.2.2.2.2.2.2.2.2.2.2.2.2.2.2.1, u_5.2.2.2.2.2.2.2.2.2.2.2.2.2.2.2)

set_option maxHeartbeats 4000000 in
set_option maxRecDepth 100000 in
theorem c_X8_worthOf (l : Launch) (G : va_G) (aM aNw aVs aSg aWs rM_kept rM_isKept rM_refused : Nat) (cNw cVs cSg cWs : ClassId) (p1 : Int32) (p2 : Int32) (p3 : Int32) (M_at : Int32) (M_fault : Int32) (M_valueMany : Int32) (M_signMany : Int32) (M_tells : Int64) (M_way : Int32) (M_wish : Int32) (M_moreTick : Int64) (M_moreForce : Int64) (M_runTurns : Int32) (M_runFirst : Int64) (M_runLast : Int64) (M_peak : Int64) (M_beside : Int64) (M_besideAt : Int32) (fNw : Nat → Int64) (fVs : Nat → Int64) (fSg : Nat → Int32) (fWs : Nat → Int64) (wn : WN_ fNw) (w0 : M_way = 0) (tb : (fNw 6).toInt ≤ 1000000000) (hn : p3.toInt ≤ 500) : kCi l yX8_worthOf (Cond.code yX8_worthOf cX8_worthOf 6 (some .int) :: wsL_law) ({ frames := 7, cells := 0, slots := 0, locals := 170 }) G [(cNw, .long), (cVs, .long), (cSg, .int), (cWs, .long)] [.ref aM, .int p1, .int p2, .int p3] [(aM, .inr (8, [.ref aNw, .ref rM_kept, .ref rM_isKept, .ref rM_refused, .int M_at, .int M_fault, .ref aVs, .int M_valueMany, .ref aSg, .int M_signMany, .long M_tells, .int M_way, .int M_wish, .long M_moreTick, .long M_moreForce, .int M_runTurns, .long M_runFirst, .long M_runLast, .ref aWs, .long M_peak, .long M_beside, .int M_besideAt])), (aNw, .inl (cNw, 139, .inr (.inl fNw))), (aVs, .inl (cVs, 64, .inr (.inl fVs))), (aSg, .inl (cSg, 128, .inl fSg)), (aWs, .inl (cWs, 53, .inr (.inl fWs)))] (fun (r : Int32) (u : Int32 × Int32 × Int32 × Int32 × Int64 × Int32 × Int64 × Int64 × Int32 × Int64 × Int64 × Int64 × Int64 × Int32 × (Nat → Int64) × (Nat → Int64) × (Nat → Int32) × (Nat → Int64)) => r = (fX8_worthOf p1 p2 p3 M_at M_fault M_valueMany M_signMany M_tells M_way M_wish M_moreTick M_moreForce fNw fVs fSg fWs).1 ∧ u = (fX8_worthOf p1 p2 p3 M_at M_fault M_valueMany M_signMany M_tells M_way M_wish M_moreTick M_moreForce fNw fVs fSg fWs).2 ∧ (u.2.2.2.2.2.2.2.2.2.2.2.2.2.2.1 = fNw) ∧ ((u.2.2.2.2.2.1 : Int32) = 0) ∧ ((u.2.2.2.2.2.2.1 : Int64) = (-1))) (fun (u : Int32 × Int32 × Int32 × Int32 × Int64 × Int32 × Int64 × Int64 × Int32 × Int64 × Int64 × Int64 × Int64 × Int32 × (Nat → Int64) × (Nat → Int64) × (Nat → Int32) × (Nat → Int64)) => [(aM, .inr (8, [.ref aNw, .ref rM_kept, .ref rM_isKept, .ref rM_refused, .int u.1, .int u.2.1, .ref aVs, .int u.2.2.1, .ref aSg, .int u.2.2.2.1, .long u.2.2.2.2.1, .int u.2.2.2.2.2.1, .int M_wish, .long u.2.2.2.2.2.2.1, .long u.2.2.2.2.2.2.2.1, .int u.2.2.2.2.2.2.2.2.1, .long u.2.2.2.2.2.2.2.2.2.1, .long u.2.2.2.2.2.2.2.2.2.2.1, .ref aWs, .long u.2.2.2.2.2.2.2.2.2.2.2.1, .long u.2.2.2.2.2.2.2.2.2.2.2.2.1, .int u.2.2.2.2.2.2.2.2.2.2.2.2.2.1])), (aNw, .inl (cNw, 139, .inr (.inl u.2.2.2.2.2.2.2.2.2.2.2.2.2.2.1))), (aVs, .inl (cVs, 64, .inr (.inl u.2.2.2.2.2.2.2.2.2.2.2.2.2.2.2.1))), (aSg, .inl (cSg, 128, .inl u.2.2.2.2.2.2.2.2.2.2.2.2.2.2.2.2.1)), (aWs, .inl (cWs, 53, .inr (.inl u.2.2.2.2.2.2.2.2.2.2.2.2.2.2.2.2.2)))]) := by
  intro sz
  refine Met.ofW (cc := cX8_worthOf) (maxL := 6) (ret := (some .int)) (by decide) rfl ?_
  intro p e s m args below meth c s₁ B hml hv
  obtain ⟨rfl, hv⟩ := hv
  obtain ⟨rfl, hK, hq, hA⟩ := kk_begin hv
  have hx := B.exec
  have hb := B.bytes
  have hr := B.returns
  have hts := atoms_spec (ws := (Cond.code yX8_worthOf cX8_worthOf 6 (some .int) :: wsL_law)) B.pre
  have hown : s.vm.findClass RX8 = some m.cls := findClass_of_methodNamed B.named
  have hlocks := B.notSynchronized
  have hsb : ∀ w ∈ wsL_law, w ∈ (Cond.code yX8_worthOf cX8_worthOf 6 (some .int) :: wsL_law) := fun _ h => List.mem_cons_of_mem _ h
  generalize va_A [(aM, .inr (8, [.ref aNw, .ref rM_kept, .ref rM_isKept, .ref rM_refused, .int M_at, .int M_fault, .ref aVs, .int M_valueMany, .ref aSg, .int M_signMany, .long M_tells, .int M_way, .int M_wish, .long M_moreTick, .long M_moreForce, .int M_runTurns, .long M_runFirst, .long M_runLast, .ref aWs, .long M_peak, .long M_beside, .int M_besideAt])), (aNw, .inl (cNw, 139, .inr (.inl fNw))), (aVs, .inl (cVs, 64, .inr (.inl fVs))), (aSg, .inl (cSg, 128, .inl fSg)), (aWs, .inl (cWs, 53, .inr (.inl fWs)))] s.heap.size = A at hq hA ⊢
  have iX8 : ∀ w ∈ u_ws RX8 TX8 22, w ∈ (Cond.code yX8_worthOf cX8_worthOf 6 (some .int) :: wsL_law) := fun w h => hsb w (bin_X8 w h)
  have lk0_ := hts _ (hsb _ wd_626)
  have lk1_ := hts _ (hsb _ wd_117)
  have lk2_ := hts _ (hsb _ wd_124)
  have lk3_ := hts _ (hsb _ wd_547)
  have lk4_ := hts _ (hsb _ wd_123)
  have hl := lv_entry ([.ref aM, .int p1, .int p2, .int p3]) (n := 6) (Nat.le_of_ble_eq_true rfl)
  rw [lg_entry_eq]
  generalize (lg_sl ([.ref aM, .int p1, .int p2, .int p3]) ++ List.replicate (6 - (lg_sl ([.ref aM, .int p1, .int p2, .int p3])).length) Slot.unset).toArray = ls at hl ⊢
  have hl : lv_has ls 6 [(0, .ref aM), (1, .int p1), (2, .int p2), (3, .int p3)] := hl
  refine lv_aload_n hx hb dX8_worthOf_0 rfl (lv_at hl 0 rfl) ?_
  refine lv_iload_n hx hb dX8_worthOf_1 rfl (lv_at hl 3 rfl) ?_
  refine kk_Vv (As := [.int p3]) (rest := []) (wr := []) ⟨hx, hb, hml, hown, hts⟩ (c_X8_run l G aM aNw aVs aSg aWs rM_kept rM_isKept rM_refused cNw cVs cSg cWs p3 M_at M_fault M_valueMany M_signMany M_tells M_way M_wish M_moreTick M_moreForce M_runTurns M_runFirst M_runLast M_peak M_beside M_besideAt fNw fVs fSg fWs wn (wy_wh w0) tb hn) (kk_cwV 1 hts hsb wd_627 wd_628 wd_629 wd_5 wd_630 rfl rfl hd_X8_run ⟨Nat.le_of_ble_eq_true rfl, Nat.le_of_ble_eq_true rfl⟩) hA hK hq [0, 1, 2, 3, 4] [] [0, 1, 2, 3] rfl rfl rfl (by decide) (by decide) (by decide) 0 8 rfl rfl rfl rfl hl.1 rfl (Nat.le_of_ble_eq_true rfl) dX8_worthOf_2 ⟨Nat.zero_le _, Nat.zero_le _⟩ (fun u_1 H locs h_3 hq => ?_)
  obtain ⟨eu_1, nw_u_1, wy_u_1⟩ := h_3
  have hq : kAt G A s [(aM, .inr (8, [.ref aNw, .ref rM_kept, .ref rM_isKept, .ref rM_refused, .int u_1.1, .int u_1.2.1, .ref aVs, .int u_1.2.2.1, .ref aSg, .int u_1.2.2.2.1, .long u_1.2.2.2.2.1, .int u_1.2.2.2.2.2.1, .int M_wish, .long M_moreTick, .long M_moreForce, .int u_1.2.2.2.2.2.2.1, .long u_1.2.2.2.2.2.2.2.1, .long u_1.2.2.2.2.2.2.2.2.1, .ref aWs, .long u_1.2.2.2.2.2.2.2.2.2.1, .long u_1.2.2.2.2.2.2.2.2.2.2.1, .int u_1.2.2.2.2.2.2.2.2.2.2.2.1])), (aNw, .inl (cNw, 139, .inr (.inl u_1.2.2.2.2.2.2.2.2.2.2.2.2.1))), (aVs, .inl (cVs, 64, .inr (.inl u_1.2.2.2.2.2.2.2.2.2.2.2.2.2.1))), (aSg, .inl (cSg, 128, .inl u_1.2.2.2.2.2.2.2.2.2.2.2.2.2.2.1)), (aWs, .inl (cWs, 53, .inr (.inl u_1.2.2.2.2.2.2.2.2.2.2.2.2.2.2.2)))] H locs := hq
  have nw1 := nw_u_1
  have wy1 := wy_u_1
  refine lv_aload_n hx hb dX8_worthOf_5 rfl (lv_at hl 0 rfl) ?_
  refine kk_get (ci := 8) (v := .long u_1.2.2.2.2.2.2.2.2.2.1) (C := RX8) (T := TX8) (N := 22) hx hb hts iX8 hown hK hq 0 rfl rfl 19 (by decide) lk0_ rfl dX8_worthOf_6 ?_
  refine lv_lstore (lv' := [(4, .long u_1.2.2.2.2.2.2.2.2.2.1), (0, .ref aM), (1, .int p1), (2, .int p2), (3, .int p3)]) hx hb dX8_worthOf_9 hl (by decide) rfl (fun ls hl => ?_)
  refine lv_aload_n hx hb dX8_worthOf_11 rfl (lv_at hl 1 rfl) ?_
  refine lv_aload_n hx hb dX8_worthOf_12 rfl (lv_at hl 1 rfl) ?_
  refine kk_get (ci := 8) (v := .ref aNw) (C := RX8) (T := TX8) (N := 22) hx hb hts iX8 hown hK hq 0 rfl rfl 0 (by decide) lk1_ rfl dX8_worthOf_13 ?_
  refine lv_iconst (v := 5) hx hb dX8_worthOf_16 (by decide) ?_
  refine kk_lald hx hb hK hq 1 0 rfl rfl 5 rfl (by decide) (by decide) dX8_worthOf_17 ?_
  refine lv_iload_n hx hb dX8_worthOf_18 rfl (lv_at hl 2 rfl) ?_
  refine lv_i2l hx hb dX8_worthOf_19 rfl ?_
  refine lv_ladd hx hb dX8_worthOf_20 ?_
  refine lv_topl (fun moreTick_4 emoreTick_4 => ?_)
  refine kk_put (ws' := [(aM, .inr (8, [.ref aNw, .ref rM_kept, .ref rM_isKept, .ref rM_refused, .int u_1.1, .int u_1.2.1, .ref aVs, .int u_1.2.2.1, .ref aSg, .int u_1.2.2.2.1, .long u_1.2.2.2.2.1, .int u_1.2.2.2.2.2.1, .int M_wish, .long moreTick_4, .long M_moreForce, .int u_1.2.2.2.2.2.2.1, .long u_1.2.2.2.2.2.2.2.1, .long u_1.2.2.2.2.2.2.2.2.1, .ref aWs, .long u_1.2.2.2.2.2.2.2.2.2.1, .long u_1.2.2.2.2.2.2.2.2.2.2.1, .int u_1.2.2.2.2.2.2.2.2.2.2.2.1])), (aNw, .inl (cNw, 139, .inr (.inl u_1.2.2.2.2.2.2.2.2.2.2.2.2.1))), (aVs, .inl (cVs, 64, .inr (.inl u_1.2.2.2.2.2.2.2.2.2.2.2.2.2.1))), (aSg, .inl (cSg, 128, .inl u_1.2.2.2.2.2.2.2.2.2.2.2.2.2.2.1)), (aWs, .inl (cWs, 53, .inr (.inl u_1.2.2.2.2.2.2.2.2.2.2.2.2.2.2.2)))]) (ci := 8) (v := .long moreTick_4) (C := RX8) (T := TX8) (N := 22) hx hb hts iX8 tyX8_ok nmX8 hown hK hq 0 rfl rfl 13 (by decide) lk2_ rfl rfl rfl (Nat.le_of_ble_eq_true rfl) dX8_worthOf_21 rfl (fun H locs hq => ?_)
  refine lv_aload_n hx hb dX8_worthOf_24 rfl (lv_at hl 1 rfl) ?_
  refine lv_iload_n hx hb dX8_worthOf_25 rfl (lv_at hl 3 rfl) ?_
  refine lv_i2l hx hb dX8_worthOf_26 rfl ?_
  refine kk_put (ws' := [(aM, .inr (8, [.ref aNw, .ref rM_kept, .ref rM_isKept, .ref rM_refused, .int u_1.1, .int u_1.2.1, .ref aVs, .int u_1.2.2.1, .ref aSg, .int u_1.2.2.2.1, .long u_1.2.2.2.2.1, .int u_1.2.2.2.2.2.1, .int M_wish, .long moreTick_4, .long p2.toInt64, .int u_1.2.2.2.2.2.2.1, .long u_1.2.2.2.2.2.2.2.1, .long u_1.2.2.2.2.2.2.2.2.1, .ref aWs, .long u_1.2.2.2.2.2.2.2.2.2.1, .long u_1.2.2.2.2.2.2.2.2.2.2.1, .int u_1.2.2.2.2.2.2.2.2.2.2.2.1])), (aNw, .inl (cNw, 139, .inr (.inl u_1.2.2.2.2.2.2.2.2.2.2.2.2.1))), (aVs, .inl (cVs, 64, .inr (.inl u_1.2.2.2.2.2.2.2.2.2.2.2.2.2.1))), (aSg, .inl (cSg, 128, .inl u_1.2.2.2.2.2.2.2.2.2.2.2.2.2.2.1)), (aWs, .inl (cWs, 53, .inr (.inl u_1.2.2.2.2.2.2.2.2.2.2.2.2.2.2.2)))]) (ci := 8) (v := .long p2.toInt64) (C := RX8) (T := TX8) (N := 22) hx hb hts iX8 tyX8_ok nmX8 hown hK hq 0 rfl rfl 14 (by decide) lk3_ rfl rfl rfl (Nat.le_of_ble_eq_true rfl) dX8_worthOf_27 rfl (fun H locs hq => ?_)
  refine lv_aload_n hx hb dX8_worthOf_30 rfl (lv_at hl 1 rfl) ?_
  refine lv_iload_n hx hb dX8_worthOf_31 rfl (lv_at hl 4 rfl) ?_
  refine kk_Vv (As := [.int p3]) (rest := []) (wr := []) ⟨hx, hb, hml, hown, hts⟩ (c_X8_run l G aM aNw aVs aSg aWs rM_kept rM_isKept rM_refused cNw cVs cSg cWs p3 u_1.1 u_1.2.1 u_1.2.2.1 u_1.2.2.2.1 u_1.2.2.2.2.1 u_1.2.2.2.2.2.1 M_wish moreTick_4 p2.toInt64 u_1.2.2.2.2.2.2.1 u_1.2.2.2.2.2.2.2.1 u_1.2.2.2.2.2.2.2.2.1 u_1.2.2.2.2.2.2.2.2.2.1 u_1.2.2.2.2.2.2.2.2.2.2.1 u_1.2.2.2.2.2.2.2.2.2.2.2.1 u_1.2.2.2.2.2.2.2.2.2.2.2.2.1 u_1.2.2.2.2.2.2.2.2.2.2.2.2.2.1 u_1.2.2.2.2.2.2.2.2.2.2.2.2.2.2.1 u_1.2.2.2.2.2.2.2.2.2.2.2.2.2.2.2 (nw_wn nw1 wn) (wy_wh wy1) (nw_tb nw1 tb) hn) (kk_cwV 1 hts hsb wd_627 wd_628 wd_629 wd_5 wd_630 rfl rfl hd_X8_run ⟨Nat.le_of_ble_eq_true rfl, Nat.le_of_ble_eq_true rfl⟩) hA hK hq [0, 1, 2, 3, 4] [] [0, 1, 2, 3] rfl rfl rfl (by decide) (by decide) (by decide) 0 8 rfl rfl rfl rfl hl.1 rfl (Nat.le_of_ble_eq_true rfl) dX8_worthOf_32 ⟨Nat.zero_le _, Nat.zero_le _⟩ (fun u_5 H locs h_7 hq => ?_)
  obtain ⟨eu_5, nw_u_5, wy_u_5⟩ := h_7
  have hq : kAt G A s [(aM, .inr (8, [.ref aNw, .ref rM_kept, .ref rM_isKept, .ref rM_refused, .int u_5.1, .int u_5.2.1, .ref aVs, .int u_5.2.2.1, .ref aSg, .int u_5.2.2.2.1, .long u_5.2.2.2.2.1, .int u_5.2.2.2.2.2.1, .int M_wish, .long moreTick_4, .long p2.toInt64, .int u_5.2.2.2.2.2.2.1, .long u_5.2.2.2.2.2.2.2.1, .long u_5.2.2.2.2.2.2.2.2.1, .ref aWs, .long u_5.2.2.2.2.2.2.2.2.2.1, .long u_5.2.2.2.2.2.2.2.2.2.2.1, .int u_5.2.2.2.2.2.2.2.2.2.2.2.1])), (aNw, .inl (cNw, 139, .inr (.inl u_5.2.2.2.2.2.2.2.2.2.2.2.2.1))), (aVs, .inl (cVs, 64, .inr (.inl u_5.2.2.2.2.2.2.2.2.2.2.2.2.2.1))), (aSg, .inl (cSg, 128, .inl u_5.2.2.2.2.2.2.2.2.2.2.2.2.2.2.1)), (aWs, .inl (cWs, 53, .inr (.inl u_5.2.2.2.2.2.2.2.2.2.2.2.2.2.2.2)))] H locs := hq
  have nw2 := nw_u_5
  have wy2 := wy_u_5
  refine lv_aload_n hx hb dX8_worthOf_35 rfl (lv_at hl 1 rfl) ?_
  refine lv_ldc2 hx hb hown lk4_ dX8_worthOf_36 ?_
  refine kk_put (ws' := [(aM, .inr (8, [.ref aNw, .ref rM_kept, .ref rM_isKept, .ref rM_refused, .int u_5.1, .int u_5.2.1, .ref aVs, .int u_5.2.2.1, .ref aSg, .int u_5.2.2.2.1, .long u_5.2.2.2.2.1, .int u_5.2.2.2.2.2.1, .int M_wish, .long (-1), .long p2.toInt64, .int u_5.2.2.2.2.2.2.1, .long u_5.2.2.2.2.2.2.2.1, .long u_5.2.2.2.2.2.2.2.2.1, .ref aWs, .long u_5.2.2.2.2.2.2.2.2.2.1, .long u_5.2.2.2.2.2.2.2.2.2.2.1, .int u_5.2.2.2.2.2.2.2.2.2.2.2.1])), (aNw, .inl (cNw, 139, .inr (.inl u_5.2.2.2.2.2.2.2.2.2.2.2.2.1))), (aVs, .inl (cVs, 64, .inr (.inl u_5.2.2.2.2.2.2.2.2.2.2.2.2.2.1))), (aSg, .inl (cSg, 128, .inl u_5.2.2.2.2.2.2.2.2.2.2.2.2.2.2.1)), (aWs, .inl (cWs, 53, .inr (.inl u_5.2.2.2.2.2.2.2.2.2.2.2.2.2.2.2)))]) (ci := 8) (v := .long (-1)) (C := RX8) (T := TX8) (N := 22) hx hb hts iX8 tyX8_ok nmX8 hown hK hq 0 rfl rfl 13 (by decide) lk2_ rfl rfl rfl (Nat.le_of_ble_eq_true rfl) dX8_worthOf_39 rfl (fun H locs hq => ?_)
  refine lv_aload_n hx hb dX8_worthOf_42 rfl (lv_at hl 1 rfl) ?_
  refine kk_get (ci := 8) (v := .long u_5.2.2.2.2.2.2.2.2.2.1) (C := RX8) (T := TX8) (N := 22) hx hb hts iX8 hown hK hq 0 rfl rfl 19 (by decide) lk0_ rfl dX8_worthOf_43 ?_
  refine lv_lload hx hb dX8_worthOf_46 (lv_at hl 0 rfl) ?_
  refine lv_lsub hx hb dX8_worthOf_48 ?_
  refine lv_l2i hx hb dX8_worthOf_49 rfl ?_
  have hf : (((u_5.2.2.2.2.2.2.2.2.2.1 - u_1.2.2.2.2.2.2.2.2.2.1).toInt32, u_5.1, u_5.2.1, u_5.2.2.1, u_5.2.2.2.1, u_5.2.2.2.2.1, u_5.2.2.2.2.2.1, (-1), p2.toInt64, u_5.2.2.2.2.2.2.1, u_5.2.2.2.2.2.2.2.1, u_5.2.2.2.2.2.2.2.2.1, u_5.2.2.2.2.2.2.2.2.2.1, u_5.2.2.2.2.2.2.2.2.2.2.1, u_5.2.2.2.2.2.2.2.2.2.2.2.1, u_5.2.2.2.2.2.2.2.2.2.2.2.2.1, u_5.2.2.2.2.2.2.2.2.2.2.2.2.2.1, u_5.2.2.2.2.2.2.2.2.2.2.2.2.2.2.1, u_5.2.2.2.2.2.2.2.2.2.2.2.2.2.2.2) : Int32 × Int32 × Int32 × Int32 × Int32 × Int64 × Int32 × Int64 × Int64 × Int32 × Int64 × Int64 × Int64 × Int64 × Int32 × (Nat → Int64) × (Nat → Int64) × (Nat → Int32) × (Nat → Int64)) = fX8_worthOf p1 p2 p3 M_at M_fault M_valueMany M_signMany M_tells M_way M_wish M_moreTick M_moreForce fNw fVs fSg fWs := by
    exact ((congrArg (fun (u_1 : Int32 × Int32 × Int32 × Int32 × Int64 × Int32 × Int32 × Int64 × Int64 × Int64 × Int64 × Int32 × (Nat → Int64) × (Nat → Int64) × (Nat → Int32) × (Nat → Int64)) => ((let moreTick_4 : Int64 := (u_1.2.2.2.2.2.2.2.2.2.2.2.2.1 5) + p1.toInt64
  let u_5 : Int32 × Int32 × Int32 × Int32 × Int64 × Int32 × Int32 × Int64 × Int64 × Int64 × Int64 × Int32 × (Nat → Int64) × (Nat → Int64) × (Nat → Int32) × (Nat → Int64) := fX8_run p3 u_1.1 u_1.2.1 u_1.2.2.1 u_1.2.2.2.1 u_1.2.2.2.2.1 u_1.2.2.2.2.2.1 M_wish moreTick_4 p2.toInt64 u_1.2.2.2.2.2.2.2.2.2.2.2.2.1 u_1.2.2.2.2.2.2.2.2.2.2.2.2.2.1 u_1.2.2.2.2.2.2.2.2.2.2.2.2.2.2.1 u_1.2.2.2.2.2.2.2.2.2.2.2.2.2.2.2
  ((u_5.2.2.2.2.2.2.2.2.2.1 - u_1.2.2.2.2.2.2.2.2.2.1).toInt32, u_5.1, u_5.2.1, u_5.2.2.1, u_5.2.2.2.1, u_5.2.2.2.2.1, u_5.2.2.2.2.2.1, (-1), p2.toInt64, u_5.2.2.2.2.2.2.1, u_5.2.2.2.2.2.2.2.1, u_5.2.2.2.2.2.2.2.2.1, u_5.2.2.2.2.2.2.2.2.2.1, u_5.2.2.2.2.2.2.2.2.2.2.1, u_5.2.2.2.2.2.2.2.2.2.2.2.1, u_5.2.2.2.2.2.2.2.2.2.2.2.2.1, u_5.2.2.2.2.2.2.2.2.2.2.2.2.2.1, u_5.2.2.2.2.2.2.2.2.2.2.2.2.2.2.1, u_5.2.2.2.2.2.2.2.2.2.2.2.2.2.2.2)) : Int32 × Int32 × Int32 × Int32 × Int32 × Int64 × Int32 × Int64 × Int64 × Int32 × Int64 × Int64 × Int64 × Int64 × Int32 × (Nat → Int64) × (Nat → Int64) × (Nat → Int32) × (Nat → Int64))) eu_1.symm).trans ((congrArg (fun (moreTick_4 : Int64) => ((let u_5 : Int32 × Int32 × Int32 × Int32 × Int64 × Int32 × Int32 × Int64 × Int64 × Int64 × Int64 × Int32 × (Nat → Int64) × (Nat → Int64) × (Nat → Int32) × (Nat → Int64) := fX8_run p3 u_1.1 u_1.2.1 u_1.2.2.1 u_1.2.2.2.1 u_1.2.2.2.2.1 u_1.2.2.2.2.2.1 M_wish moreTick_4 p2.toInt64 u_1.2.2.2.2.2.2.2.2.2.2.2.2.1 u_1.2.2.2.2.2.2.2.2.2.2.2.2.2.1 u_1.2.2.2.2.2.2.2.2.2.2.2.2.2.2.1 u_1.2.2.2.2.2.2.2.2.2.2.2.2.2.2.2
  ((u_5.2.2.2.2.2.2.2.2.2.1 - u_1.2.2.2.2.2.2.2.2.2.1).toInt32, u_5.1, u_5.2.1, u_5.2.2.1, u_5.2.2.2.1, u_5.2.2.2.2.1, u_5.2.2.2.2.2.1, (-1), p2.toInt64, u_5.2.2.2.2.2.2.1, u_5.2.2.2.2.2.2.2.1, u_5.2.2.2.2.2.2.2.2.1, u_5.2.2.2.2.2.2.2.2.2.1, u_5.2.2.2.2.2.2.2.2.2.2.1, u_5.2.2.2.2.2.2.2.2.2.2.2.1, u_5.2.2.2.2.2.2.2.2.2.2.2.2.1, u_5.2.2.2.2.2.2.2.2.2.2.2.2.2.1, u_5.2.2.2.2.2.2.2.2.2.2.2.2.2.2.1, u_5.2.2.2.2.2.2.2.2.2.2.2.2.2.2.2)) : Int32 × Int32 × Int32 × Int32 × Int32 × Int64 × Int32 × Int64 × Int64 × Int32 × Int64 × Int64 × Int64 × Int64 × Int32 × (Nat → Int64) × (Nat → Int64) × (Nat → Int32) × (Nat → Int64))) emoreTick_4.symm).trans ((congrArg (fun (u_5 : Int32 × Int32 × Int32 × Int32 × Int64 × Int32 × Int32 × Int64 × Int64 × Int64 × Int64 × Int32 × (Nat → Int64) × (Nat → Int64) × (Nat → Int32) × (Nat → Int64)) => ((((u_5.2.2.2.2.2.2.2.2.2.1 - u_1.2.2.2.2.2.2.2.2.2.1).toInt32, u_5.1, u_5.2.1, u_5.2.2.1, u_5.2.2.2.1, u_5.2.2.2.2.1, u_5.2.2.2.2.2.1, (-1), p2.toInt64, u_5.2.2.2.2.2.2.1, u_5.2.2.2.2.2.2.2.1, u_5.2.2.2.2.2.2.2.2.1, u_5.2.2.2.2.2.2.2.2.2.1, u_5.2.2.2.2.2.2.2.2.2.2.1, u_5.2.2.2.2.2.2.2.2.2.2.2.1, u_5.2.2.2.2.2.2.2.2.2.2.2.2.1, u_5.2.2.2.2.2.2.2.2.2.2.2.2.2.1, u_5.2.2.2.2.2.2.2.2.2.2.2.2.2.2.1, u_5.2.2.2.2.2.2.2.2.2.2.2.2.2.2.2)) : Int32 × Int32 × Int32 × Int32 × Int32 × Int64 × Int32 × Int64 × Int64 × Int32 × Int64 × Int64 × Int64 × Int64 × Int32 × (Nat → Int64) × (Nat → Int64) × (Nat → Int32) × (Nat → Int64))) eu_5.symm)))).symm
  have hf1 := congrArg Prod.fst hf
  have hf2 := congrArg Prod.snd hf
  have en_0 : u_5.2.2.2.2.2.2.2.2.2.2.2.2.1 = fNw := by exact nw2.trans nw1
  have en_1 : (u_5.2.2.2.2.2.1 : Int32) = 0 := by exact wy2
  have en_2 : (((-1) : Int64) : Int64) = (-1) := by rfl
  exact kk_ei hx hb hr hlocks hK hq [0, 1, 2, 3, 4] (u_5.1, u_5.2.1, u_5.2.2.1, u_5.2.2.2.1, u_5.2.2.2.2.1, u_5.2.2.2.2.2.1, (-1), p2.toInt64, u_5.2.2.2.2.2.2.1, u_5.2.2.2.2.2.2.2.1, u_5.2.2.2.2.2.2.2.2.1, u_5.2.2.2.2.2.2.2.2.2.1, u_5.2.2.2.2.2.2.2.2.2.2.1, u_5.2.2.2.2.2.2.2.2.2.2.2.1, u_5.2.2.2.2.2.2.2.2.2.2.2.2.1, u_5.2.2.2.2.2.2.2.2.2.2.2.2.2.1, u_5.2.2.2.2.2.2.2.2.2.2.2.2.2.2.1, u_5.2.2.2.2.2.2.2.2.2.2.2.2.2.2.2) rfl (by decide) dX8_worthOf_50 ⟨hf1, hf2, en_0, en_1, en_2⟩
theorem hd_X8_worthOf : yX8_worthOf.cls = RX8 ∧ yX8_worthOf.cls ≠ "java/lang/invoke/MethodHandle" ∧ yX8_worthOf.cls ≠ "java/lang/invoke/VarHandle" ∧ (parseMethodDescriptor yX8_worthOf.desc).map (fun d => d.parameters.length) = some 3 := by decide +kernel
def fX8_worth (p1 : Int32) (p2 : Int32) (p3 : Int32) (M_at : Int32) (M_fault : Int32) (M_valueMany : Int32) (M_signMany : Int32) (M_tells : Int64) (M_way : Int32) (M_wish : Int32) (M_moreTick : Int64) (M_moreForce : Int64) (M_runTurns : Int32) (M_runFirst : Int64) (M_runLast : Int64) (M_peak : Int64) (M_beside : Int64) (M_besideAt : Int32) (fNw : Nat → Int64) (fVs : Nat → Int64) (fSg : Nat → Int32) (fWs : Nat → Int64) (fRf : Nat → Int32) : Int32 × Int32 × Int32 × Int32 × Int32 × Int64 × Int32 × Int64 × Int64 × Int32 × Int64 × Int64 × Int64 × Int64 × Int32 × (Nat → Int64) × (Nat → Int64) × (Nat → Int32) × (Nat → Int64) × (Nat → Int32) :=
  let r_2 : Int32 := fX8_in p1.toInt64 0 499
  if r_2 = 0 then (
    let r_6 : Int32 := (fX8_bad (-10000000) fRf).1
    let u_5 : Nat → Int32 := (fX8_bad (-10000000) fRf).2
    (r_6, M_at, M_fault, M_valueMany, M_signMany, M_tells, M_way, M_moreTick, M_moreForce, M_runTurns, M_runFirst, M_runLast, M_peak, M_beside, M_besideAt, fNw, fVs, fSg, fWs, u_5))
  else (
    let r_9 : Int32 := fX8_isForce p2
    if r_9 = 0 then (
      let r_13 : Int32 := (fX8_bad (-10000000) fRf).1
      let u_12 : Nat → Int32 := (fX8_bad (-10000000) fRf).2
      (r_13, M_at, M_fault, M_valueMany, M_signMany, M_tells, M_way, M_moreTick, M_moreForce, M_runTurns, M_runFirst, M_runLast, M_peak, M_beside, M_besideAt, fNw, fVs, fSg, fWs, u_12))
    else (
      let r_16 : Int32 := fX8_isRun p3
      if r_16 = 0 then (
        let r_20 : Int32 := (fX8_bad (-10000000) fRf).1
        let u_19 : Nat → Int32 := (fX8_bad (-10000000) fRf).2
        (r_20, M_at, M_fault, M_valueMany, M_signMany, M_tells, M_way, M_moreTick, M_moreForce, M_runTurns, M_runFirst, M_runLast, M_peak, M_beside, M_besideAt, fNw, fVs, fSg, fWs, u_19))
      else (
        let r_23 : Int32 := (fX8_worthOf p1 p2 p3 M_at M_fault M_valueMany M_signMany M_tells M_way M_wish M_moreTick M_moreForce fNw fVs fSg fWs).1
        let u_22 : Int32 × Int32 × Int32 × Int32 × Int64 × Int32 × Int64 × Int64 × Int32 × Int64 × Int64 × Int64 × Int64 × Int32 × (Nat → Int64) × (Nat → Int64) × (Nat → Int32) × (Nat → Int64) := (fX8_worthOf p1 p2 p3 M_at M_fault M_valueMany M_signMany M_tells M_way M_wish M_moreTick M_moreForce fNw fVs fSg fWs).2
        (r_23, u_22.1, u_22.2.1, u_22.2.2.1, u_22.2.2.2.1, u_22.2.2.2.2.1, u_22.2.2.2.2.2.1, u_22.2.2.2.2.2.2.1, u_22.2.2.2.2.2.2.2.1, u_22.2.2.2.2.2.2.2.2.1, u_22.2.2.2.2.2.2.2.2.2.1, u_22.2.2.2.2.2.2.2.2.2.2.1, u_22.2.2.2.2.2.2.2.2.2.2.2.1, u_22.2.2.2.2.2.2.2.2.2.2.2.2.1, u_22.2.2.2.2.2.2.2.2.2.2.2.2.2.1, u_22.2.2.2.2.2.2.2.2.2.2.2.2.2.2.1, u_22.2.2.2.2.2.2.2.2.2.2.2.2.2.2.2.1, u_22.2.2.2.2.2.2.2.2.2.2.2.2.2.2.2.2.1, u_22.2.2.2.2.2.2.2.2.2.2.2.2.2.2.2.2.2, fRf))))

set_option maxHeartbeats 4000000 in
set_option maxRecDepth 100000 in
theorem c_X8_worth (l : Launch) (G : va_G) (aM aNw aVs aSg aWs aRf rM_kept rM_isKept : Nat) (cNw cVs cSg cWs cRf : ClassId) (p1 : Int32) (p2 : Int32) (p3 : Int32) (M_at : Int32) (M_fault : Int32) (M_valueMany : Int32) (M_signMany : Int32) (M_tells : Int64) (M_way : Int32) (M_wish : Int32) (M_moreTick : Int64) (M_moreForce : Int64) (M_runTurns : Int32) (M_runFirst : Int64) (M_runLast : Int64) (M_peak : Int64) (M_beside : Int64) (M_besideAt : Int32) (fNw : Nat → Int64) (fVs : Nat → Int64) (fSg : Nat → Int32) (fWs : Nat → Int64) (fRf : Nat → Int32) (wn : WN_ fNw) (w0 : M_way = 0) (tb : (fNw 6).toInt ≤ 1000000000) (mt : M_moreTick = (-1)) : kCi l yX8_worth (Cond.code yX8_worth cX8_worth 4 (some .int) :: wsL_law) ({ frames := 8, cells := 0, slots := 0, locals := 195 }) G [(cNw, .long), (cVs, .long), (cSg, .int), (cWs, .long), (cRf, .int)] [.ref aM, .int p1, .int p2, .int p3] [(aM, .inr (8, [.ref aNw, .ref rM_kept, .ref rM_isKept, .ref aRf, .int M_at, .int M_fault, .ref aVs, .int M_valueMany, .ref aSg, .int M_signMany, .long M_tells, .int M_way, .int M_wish, .long M_moreTick, .long M_moreForce, .int M_runTurns, .long M_runFirst, .long M_runLast, .ref aWs, .long M_peak, .long M_beside, .int M_besideAt])), (aNw, .inl (cNw, 139, .inr (.inl fNw))), (aVs, .inl (cVs, 64, .inr (.inl fVs))), (aSg, .inl (cSg, 128, .inl fSg)), (aWs, .inl (cWs, 53, .inr (.inl fWs))), (aRf, .inl (cRf, 3, .inl fRf))] (fun (r : Int32) (u : Int32 × Int32 × Int32 × Int32 × Int64 × Int32 × Int64 × Int64 × Int32 × Int64 × Int64 × Int64 × Int64 × Int32 × (Nat → Int64) × (Nat → Int64) × (Nat → Int32) × (Nat → Int64) × (Nat → Int32)) => r = (fX8_worth p1 p2 p3 M_at M_fault M_valueMany M_signMany M_tells M_way M_wish M_moreTick M_moreForce M_runTurns M_runFirst M_runLast M_peak M_beside M_besideAt fNw fVs fSg fWs fRf).1 ∧ u = (fX8_worth p1 p2 p3 M_at M_fault M_valueMany M_signMany M_tells M_way M_wish M_moreTick M_moreForce M_runTurns M_runFirst M_runLast M_peak M_beside M_besideAt fNw fVs fSg fWs fRf).2 ∧ (u.2.2.2.2.2.2.2.2.2.2.2.2.2.2.1 = fNw) ∧ ((u.2.2.2.2.2.1 : Int32) = 0) ∧ ((u.2.2.2.2.2.2.1 : Int64) = (-1))) (fun (u : Int32 × Int32 × Int32 × Int32 × Int64 × Int32 × Int64 × Int64 × Int32 × Int64 × Int64 × Int64 × Int64 × Int32 × (Nat → Int64) × (Nat → Int64) × (Nat → Int32) × (Nat → Int64) × (Nat → Int32)) => [(aM, .inr (8, [.ref aNw, .ref rM_kept, .ref rM_isKept, .ref aRf, .int u.1, .int u.2.1, .ref aVs, .int u.2.2.1, .ref aSg, .int u.2.2.2.1, .long u.2.2.2.2.1, .int u.2.2.2.2.2.1, .int M_wish, .long u.2.2.2.2.2.2.1, .long u.2.2.2.2.2.2.2.1, .int u.2.2.2.2.2.2.2.2.1, .long u.2.2.2.2.2.2.2.2.2.1, .long u.2.2.2.2.2.2.2.2.2.2.1, .ref aWs, .long u.2.2.2.2.2.2.2.2.2.2.2.1, .long u.2.2.2.2.2.2.2.2.2.2.2.2.1, .int u.2.2.2.2.2.2.2.2.2.2.2.2.2.1])), (aNw, .inl (cNw, 139, .inr (.inl u.2.2.2.2.2.2.2.2.2.2.2.2.2.2.1))), (aVs, .inl (cVs, 64, .inr (.inl u.2.2.2.2.2.2.2.2.2.2.2.2.2.2.2.1))), (aSg, .inl (cSg, 128, .inl u.2.2.2.2.2.2.2.2.2.2.2.2.2.2.2.2.1)), (aWs, .inl (cWs, 53, .inr (.inl u.2.2.2.2.2.2.2.2.2.2.2.2.2.2.2.2.2.1))), (aRf, .inl (cRf, 3, .inl u.2.2.2.2.2.2.2.2.2.2.2.2.2.2.2.2.2.2))]) := by
  intro sz
  refine Met.ofW (cc := cX8_worth) (maxL := 4) (ret := (some .int)) (by decide) rfl ?_
  intro p e s m args below meth c s₁ B hml hv
  obtain ⟨rfl, hv⟩ := hv
  obtain ⟨rfl, hK, hq, hA⟩ := kk_begin hv
  have hx := B.exec
  have hb := B.bytes
  have hr := B.returns
  have hts := atoms_spec (ws := (Cond.code yX8_worth cX8_worth 4 (some .int) :: wsL_law)) B.pre
  have hown : s.vm.findClass RX8 = some m.cls := findClass_of_methodNamed B.named
  have hlocks := B.notSynchronized
  have hsb : ∀ w ∈ wsL_law, w ∈ (Cond.code yX8_worth cX8_worth 4 (some .int) :: wsL_law) := fun _ h => List.mem_cons_of_mem _ h
  generalize va_A [(aM, .inr (8, [.ref aNw, .ref rM_kept, .ref rM_isKept, .ref aRf, .int M_at, .int M_fault, .ref aVs, .int M_valueMany, .ref aSg, .int M_signMany, .long M_tells, .int M_way, .int M_wish, .long M_moreTick, .long M_moreForce, .int M_runTurns, .long M_runFirst, .long M_runLast, .ref aWs, .long M_peak, .long M_beside, .int M_besideAt])), (aNw, .inl (cNw, 139, .inr (.inl fNw))), (aVs, .inl (cVs, 64, .inr (.inl fVs))), (aSg, .inl (cSg, 128, .inl fSg)), (aWs, .inl (cWs, 53, .inr (.inl fWs))), (aRf, .inl (cRf, 3, .inl fRf))] s.heap.size = A at hq hA ⊢
  have lk0_ := hts _ (hsb _ wd_665)
  have lk1_ := hts _ (hsb _ wd_590)
  have hl := lv_entry ([.ref aM, .int p1, .int p2, .int p3]) (n := 4) (Nat.le_of_ble_eq_true rfl)
  rw [lg_entry_eq]
  generalize (lg_sl ([.ref aM, .int p1, .int p2, .int p3]) ++ List.replicate (4 - (lg_sl ([.ref aM, .int p1, .int p2, .int p3])).length) Slot.unset).toArray = ls at hl ⊢
  have hl : lv_has ls 4 [(0, .ref aM), (1, .int p1), (2, .int p2), (3, .int p3)] := hl
  refine lv_iload_n hx hb dX8_worth_0 rfl (lv_at hl 1 rfl) ?_
  refine lv_i2l hx hb dX8_worth_1 rfl ?_
  refine lv_lconst (v := 0) hx hb dX8_worth_2 (by decide) ?_
  refine lv_ldc2 hx hb hown lk0_ dX8_worth_3 ?_
  refine kk_Si (As := [.long p1.toInt64, .long 0, .long 499]) (rest := []) (wr := [(aM, .inr (8, [.ref aNw, .ref rM_kept, .ref rM_isKept, .ref aRf, .int M_at, .int M_fault, .ref aVs, .int M_valueMany, .ref aSg, .int M_signMany, .long M_tells, .int M_way, .int M_wish, .long M_moreTick, .long M_moreForce, .int M_runTurns, .long M_runFirst, .long M_runLast, .ref aWs, .long M_peak, .long M_beside, .int M_besideAt])), (aNw, .inl (cNw, 139, .inr (.inl fNw))), (aVs, .inl (cVs, 64, .inr (.inl fVs))), (aSg, .inl (cSg, 128, .inl fSg)), (aWs, .inl (cWs, 53, .inr (.inl fWs))), (aRf, .inl (cRf, 3, .inl fRf))]) ⟨hx, hb, hml, hown, hts⟩ (c_X8_in l G p1.toInt64 0 499) (kk_cwS 3 hts hsb wd_156 wd_157 wd_5 wd_158 rfl rfl hd_X8_in ⟨Nat.le_of_ble_eq_true rfl, Nat.le_of_ble_eq_true rfl⟩) hA hK hq [] [0, 1, 2, 3, 4, 5] [] rfl rfl rfl (by decide) (by decide) (by decide) rfl hl.1 rfl (Nat.le_of_ble_eq_true rfl) dX8_worth_6 ⟨Nat.zero_le _, Nat.zero_le _⟩ (fun r_2 u_1 H locs h_3 hq => ?_)
  obtain ⟨er_2, zr_2⟩ := h_3
  have hq : kAt G A s [(aM, .inr (8, [.ref aNw, .ref rM_kept, .ref rM_isKept, .ref aRf, .int M_at, .int M_fault, .ref aVs, .int M_valueMany, .ref aSg, .int M_signMany, .long M_tells, .int M_way, .int M_wish, .long M_moreTick, .long M_moreForce, .int M_runTurns, .long M_runFirst, .long M_runLast, .ref aWs, .long M_peak, .long M_beside, .int M_besideAt])), (aNw, .inl (cNw, 139, .inr (.inl fNw))), (aVs, .inl (cVs, 64, .inr (.inl fVs))), (aSg, .inl (cSg, 128, .inl fSg)), (aWs, .inl (cWs, 53, .inr (.inl fWs))), (aRf, .inl (cRf, 3, .inl fRf))] H locs := hq
  refine lv_if_eq (tgt := 36) hx hb dX8_worth_9 (by decide) (fun c_4 => ?_) (fun c_4 => ?_)
  · skip
    refine lv_aload_n hx hb dX8_worth_36 rfl (lv_at hl 0 rfl) ?_
    refine lv_ldc hx hb hown lk1_ dX8_worth_37 ?_
    refine kk_Vi (As := [.int (-10000000)]) (rest := []) (wr := [(aNw, .inl (cNw, 139, .inr (.inl fNw))), (aVs, .inl (cVs, 64, .inr (.inl fVs))), (aSg, .inl (cSg, 128, .inl fSg)), (aWs, .inl (cWs, 53, .inr (.inl fWs)))]) ⟨hx, hb, hml, hown, hts⟩ (c_X8_bad l G aM aRf aNw rM_kept rM_isKept aVs aSg aWs cRf (-10000000) M_at M_fault M_valueMany M_signMany M_tells M_way M_wish M_moreTick M_moreForce M_runTurns M_runFirst M_runLast M_peak M_beside M_besideAt fRf) (kk_cwV 1 hts hsb wd_159 wd_160 wd_161 wd_5 wd_162 rfl rfl hd_X8_bad ⟨Nat.le_of_ble_eq_true rfl, Nat.le_of_ble_eq_true rfl⟩) hA hK hq [0, 5] [1, 2, 3, 4] [4] rfl rfl rfl (by decide) (by decide) (by decide) 0 8 rfl rfl rfl rfl hl.1 rfl (Nat.le_of_ble_eq_true rfl) dX8_worth_39 ⟨Nat.zero_le _, Nat.zero_le _⟩ (fun r_6 u_5 H locs h_7 hq => ?_)
    obtain ⟨er_6, eu_5⟩ := h_7
    have hq : kAt G A s [(aNw, .inl (cNw, 139, .inr (.inl fNw))), (aVs, .inl (cVs, 64, .inr (.inl fVs))), (aSg, .inl (cSg, 128, .inl fSg)), (aWs, .inl (cWs, 53, .inr (.inl fWs))), (aM, .inr (8, [.ref aNw, .ref rM_kept, .ref rM_isKept, .ref aRf, .int M_at, .int M_fault, .ref aVs, .int M_valueMany, .ref aSg, .int M_signMany, .long M_tells, .int M_way, .int M_wish, .long M_moreTick, .long M_moreForce, .int M_runTurns, .long M_runFirst, .long M_runLast, .ref aWs, .long M_peak, .long M_beside, .int M_besideAt])), (aRf, .inl (cRf, 3, .inl u_5))] H locs := hq
    have hf : ((r_6, M_at, M_fault, M_valueMany, M_signMany, M_tells, M_way, M_moreTick, M_moreForce, M_runTurns, M_runFirst, M_runLast, M_peak, M_beside, M_besideAt, fNw, fVs, fSg, fWs, u_5) : Int32 × Int32 × Int32 × Int32 × Int32 × Int64 × Int32 × Int64 × Int64 × Int32 × Int64 × Int64 × Int64 × Int64 × Int32 × (Nat → Int64) × (Nat → Int64) × (Nat → Int32) × (Nat → Int64) × (Nat → Int32)) = fX8_worth p1 p2 p3 M_at M_fault M_valueMany M_signMany M_tells M_way M_wish M_moreTick M_moreForce M_runTurns M_runFirst M_runLast M_peak M_beside M_besideAt fNw fVs fSg fWs fRf := by
      exact ((congrArg (fun (r_2 : Int32) => ((if r_2 = 0 then (
    let r_6 : Int32 := (fX8_bad (-10000000) fRf).1
    let u_5 : Nat → Int32 := (fX8_bad (-10000000) fRf).2
    (r_6, M_at, M_fault, M_valueMany, M_signMany, M_tells, M_way, M_moreTick, M_moreForce, M_runTurns, M_runFirst, M_runLast, M_peak, M_beside, M_besideAt, fNw, fVs, fSg, fWs, u_5))
  else (
    let r_9 : Int32 := fX8_isForce p2
    if r_9 = 0 then (
      let r_13 : Int32 := (fX8_bad (-10000000) fRf).1
      let u_12 : Nat → Int32 := (fX8_bad (-10000000) fRf).2
      (r_13, M_at, M_fault, M_valueMany, M_signMany, M_tells, M_way, M_moreTick, M_moreForce, M_runTurns, M_runFirst, M_runLast, M_peak, M_beside, M_besideAt, fNw, fVs, fSg, fWs, u_12))
    else (
      let r_16 : Int32 := fX8_isRun p3
      if r_16 = 0 then (
        let r_20 : Int32 := (fX8_bad (-10000000) fRf).1
        let u_19 : Nat → Int32 := (fX8_bad (-10000000) fRf).2
        (r_20, M_at, M_fault, M_valueMany, M_signMany, M_tells, M_way, M_moreTick, M_moreForce, M_runTurns, M_runFirst, M_runLast, M_peak, M_beside, M_besideAt, fNw, fVs, fSg, fWs, u_19))
      else (
        let r_23 : Int32 := (fX8_worthOf p1 p2 p3 M_at M_fault M_valueMany M_signMany M_tells M_way M_wish M_moreTick M_moreForce fNw fVs fSg fWs).1
        let u_22 : Int32 × Int32 × Int32 × Int32 × Int64 × Int32 × Int64 × Int64 × Int32 × Int64 × Int64 × Int64 × Int64 × Int32 × (Nat → Int64) × (Nat → Int64) × (Nat → Int32) × (Nat → Int64) := (fX8_worthOf p1 p2 p3 M_at M_fault M_valueMany M_signMany M_tells M_way M_wish M_moreTick M_moreForce fNw fVs fSg fWs).2
        (r_23, u_22.1, u_22.2.1, u_22.2.2.1, u_22.2.2.2.1, u_22.2.2.2.2.1, u_22.2.2.2.2.2.1, u_22.2.2.2.2.2.2.1, u_22.2.2.2.2.2.2.2.1, u_22.2.2.2.2.2.2.2.2.1, u_22.2.2.2.2.2.2.2.2.2.1, u_22.2.2.2.2.2.2.2.2.2.2.1, u_22.2.2.2.2.2.2.2.2.2.2.2.1, u_22.2.2.2.2.2.2.2.2.2.2.2.2.1, u_22.2.2.2.2.2.2.2.2.2.2.2.2.2.1, u_22.2.2.2.2.2.2.2.2.2.2.2.2.2.2.1, u_22.2.2.2.2.2.2.2.2.2.2.2.2.2.2.2.1, u_22.2.2.2.2.2.2.2.2.2.2.2.2.2.2.2.2.1, u_22.2.2.2.2.2.2.2.2.2.2.2.2.2.2.2.2.2, fRf))))) : Int32 × Int32 × Int32 × Int32 × Int32 × Int64 × Int32 × Int64 × Int64 × Int32 × Int64 × Int64 × Int64 × Int64 × Int32 × (Nat → Int64) × (Nat → Int64) × (Nat → Int32) × (Nat → Int64) × (Nat → Int32))) er_2.symm).trans ((if_pos c_4).trans ((congrArg (fun (r_6 : Int32) => ((let u_5 : Nat → Int32 := (fX8_bad (-10000000) fRf).2
  (r_6, M_at, M_fault, M_valueMany, M_signMany, M_tells, M_way, M_moreTick, M_moreForce, M_runTurns, M_runFirst, M_runLast, M_peak, M_beside, M_besideAt, fNw, fVs, fSg, fWs, u_5)) : Int32 × Int32 × Int32 × Int32 × Int32 × Int64 × Int32 × Int64 × Int64 × Int32 × Int64 × Int64 × Int64 × Int64 × Int32 × (Nat → Int64) × (Nat → Int64) × (Nat → Int32) × (Nat → Int64) × (Nat → Int32))) er_6.symm).trans ((congrArg (fun (u_5 : Nat → Int32) => (((r_6, M_at, M_fault, M_valueMany, M_signMany, M_tells, M_way, M_moreTick, M_moreForce, M_runTurns, M_runFirst, M_runLast, M_peak, M_beside, M_besideAt, fNw, fVs, fSg, fWs, u_5)) : Int32 × Int32 × Int32 × Int32 × Int32 × Int64 × Int32 × Int64 × Int64 × Int32 × Int64 × Int64 × Int64 × Int64 × Int32 × (Nat → Int64) × (Nat → Int64) × (Nat → Int32) × (Nat → Int64) × (Nat → Int32))) eu_5.symm))))).symm
    have hf1 := congrArg Prod.fst hf
    have hf2 := congrArg Prod.snd hf
    have en_0 : fNw = fNw := by first | assumption | rfl
    have en_1 : (M_way : Int32) = 0 := by first | assumption | rfl
    have en_2 : (M_moreTick : Int64) = (-1) := by first | assumption | rfl
    exact kk_ei hx hb hr hlocks hK hq [4, 0, 1, 2, 3, 5] (M_at, M_fault, M_valueMany, M_signMany, M_tells, M_way, M_moreTick, M_moreForce, M_runTurns, M_runFirst, M_runLast, M_peak, M_beside, M_besideAt, fNw, fVs, fSg, fWs, u_5) rfl (by decide) dX8_worth_42 ⟨hf1, hf2, en_0, en_1, en_2⟩
  · skip
    refine lv_iload_n hx hb dX8_worth_12 rfl (lv_at hl 2 rfl) ?_
    refine kk_Si (As := [.int p2]) (rest := []) (wr := [(aM, .inr (8, [.ref aNw, .ref rM_kept, .ref rM_isKept, .ref aRf, .int M_at, .int M_fault, .ref aVs, .int M_valueMany, .ref aSg, .int M_signMany, .long M_tells, .int M_way, .int M_wish, .long M_moreTick, .long M_moreForce, .int M_runTurns, .long M_runFirst, .long M_runLast, .ref aWs, .long M_peak, .long M_beside, .int M_besideAt])), (aNw, .inl (cNw, 139, .inr (.inl fNw))), (aVs, .inl (cVs, 64, .inr (.inl fVs))), (aSg, .inl (cSg, 128, .inl fSg)), (aWs, .inl (cWs, 53, .inr (.inl fWs))), (aRf, .inl (cRf, 3, .inl fRf))]) ⟨hx, hb, hml, hown, hts⟩ (c_X8_isForce l G p2) (kk_cwS 1 hts hsb wd_346 wd_347 wd_5 wd_348 rfl rfl hd_X8_isForce ⟨Nat.le_of_ble_eq_true rfl, Nat.le_of_ble_eq_true rfl⟩) hA hK hq [] [0, 1, 2, 3, 4, 5] [] rfl rfl rfl (by decide) (by decide) (by decide) rfl hl.1 rfl (Nat.le_of_ble_eq_true rfl) dX8_worth_13 ⟨Nat.zero_le _, Nat.zero_le _⟩ (fun r_9 u_8 H locs h_10 hq => ?_)
    obtain ⟨er_9, zr_9⟩ := h_10
    have hq : kAt G A s [(aM, .inr (8, [.ref aNw, .ref rM_kept, .ref rM_isKept, .ref aRf, .int M_at, .int M_fault, .ref aVs, .int M_valueMany, .ref aSg, .int M_signMany, .long M_tells, .int M_way, .int M_wish, .long M_moreTick, .long M_moreForce, .int M_runTurns, .long M_runFirst, .long M_runLast, .ref aWs, .long M_peak, .long M_beside, .int M_besideAt])), (aNw, .inl (cNw, 139, .inr (.inl fNw))), (aVs, .inl (cVs, 64, .inr (.inl fVs))), (aSg, .inl (cSg, 128, .inl fSg)), (aWs, .inl (cWs, 53, .inr (.inl fWs))), (aRf, .inl (cRf, 3, .inl fRf))] H locs := hq
    refine lv_if_eq (tgt := 36) hx hb dX8_worth_16 (by decide) (fun c_11 => ?_) (fun c_11 => ?_)
    · skip
      refine lv_aload_n hx hb dX8_worth_36 rfl (lv_at hl 0 rfl) ?_
      refine lv_ldc hx hb hown lk1_ dX8_worth_37 ?_
      refine kk_Vi (As := [.int (-10000000)]) (rest := []) (wr := [(aNw, .inl (cNw, 139, .inr (.inl fNw))), (aVs, .inl (cVs, 64, .inr (.inl fVs))), (aSg, .inl (cSg, 128, .inl fSg)), (aWs, .inl (cWs, 53, .inr (.inl fWs)))]) ⟨hx, hb, hml, hown, hts⟩ (c_X8_bad l G aM aRf aNw rM_kept rM_isKept aVs aSg aWs cRf (-10000000) M_at M_fault M_valueMany M_signMany M_tells M_way M_wish M_moreTick M_moreForce M_runTurns M_runFirst M_runLast M_peak M_beside M_besideAt fRf) (kk_cwV 1 hts hsb wd_159 wd_160 wd_161 wd_5 wd_162 rfl rfl hd_X8_bad ⟨Nat.le_of_ble_eq_true rfl, Nat.le_of_ble_eq_true rfl⟩) hA hK hq [0, 5] [1, 2, 3, 4] [4] rfl rfl rfl (by decide) (by decide) (by decide) 0 8 rfl rfl rfl rfl hl.1 rfl (Nat.le_of_ble_eq_true rfl) dX8_worth_39 ⟨Nat.zero_le _, Nat.zero_le _⟩ (fun r_13 u_12 H locs h_14 hq => ?_)
      obtain ⟨er_13, eu_12⟩ := h_14
      have hq : kAt G A s [(aNw, .inl (cNw, 139, .inr (.inl fNw))), (aVs, .inl (cVs, 64, .inr (.inl fVs))), (aSg, .inl (cSg, 128, .inl fSg)), (aWs, .inl (cWs, 53, .inr (.inl fWs))), (aM, .inr (8, [.ref aNw, .ref rM_kept, .ref rM_isKept, .ref aRf, .int M_at, .int M_fault, .ref aVs, .int M_valueMany, .ref aSg, .int M_signMany, .long M_tells, .int M_way, .int M_wish, .long M_moreTick, .long M_moreForce, .int M_runTurns, .long M_runFirst, .long M_runLast, .ref aWs, .long M_peak, .long M_beside, .int M_besideAt])), (aRf, .inl (cRf, 3, .inl u_12))] H locs := hq
      have hf : ((r_13, M_at, M_fault, M_valueMany, M_signMany, M_tells, M_way, M_moreTick, M_moreForce, M_runTurns, M_runFirst, M_runLast, M_peak, M_beside, M_besideAt, fNw, fVs, fSg, fWs, u_12) : Int32 × Int32 × Int32 × Int32 × Int32 × Int64 × Int32 × Int64 × Int64 × Int32 × Int64 × Int64 × Int64 × Int64 × Int32 × (Nat → Int64) × (Nat → Int64) × (Nat → Int32) × (Nat → Int64) × (Nat → Int32)) = fX8_worth p1 p2 p3 M_at M_fault M_valueMany M_signMany M_tells M_way M_wish M_moreTick M_moreForce M_runTurns M_runFirst M_runLast M_peak M_beside M_besideAt fNw fVs fSg fWs fRf := by
        exact ((congrArg (fun (r_2 : Int32) => ((if r_2 = 0 then (
    let r_6 : Int32 := (fX8_bad (-10000000) fRf).1
    let u_5 : Nat → Int32 := (fX8_bad (-10000000) fRf).2
    (r_6, M_at, M_fault, M_valueMany, M_signMany, M_tells, M_way, M_moreTick, M_moreForce, M_runTurns, M_runFirst, M_runLast, M_peak, M_beside, M_besideAt, fNw, fVs, fSg, fWs, u_5))
  else (
    let r_9 : Int32 := fX8_isForce p2
    if r_9 = 0 then (
      let r_13 : Int32 := (fX8_bad (-10000000) fRf).1
      let u_12 : Nat → Int32 := (fX8_bad (-10000000) fRf).2
      (r_13, M_at, M_fault, M_valueMany, M_signMany, M_tells, M_way, M_moreTick, M_moreForce, M_runTurns, M_runFirst, M_runLast, M_peak, M_beside, M_besideAt, fNw, fVs, fSg, fWs, u_12))
    else (
      let r_16 : Int32 := fX8_isRun p3
      if r_16 = 0 then (
        let r_20 : Int32 := (fX8_bad (-10000000) fRf).1
        let u_19 : Nat → Int32 := (fX8_bad (-10000000) fRf).2
        (r_20, M_at, M_fault, M_valueMany, M_signMany, M_tells, M_way, M_moreTick, M_moreForce, M_runTurns, M_runFirst, M_runLast, M_peak, M_beside, M_besideAt, fNw, fVs, fSg, fWs, u_19))
      else (
        let r_23 : Int32 := (fX8_worthOf p1 p2 p3 M_at M_fault M_valueMany M_signMany M_tells M_way M_wish M_moreTick M_moreForce fNw fVs fSg fWs).1
        let u_22 : Int32 × Int32 × Int32 × Int32 × Int64 × Int32 × Int64 × Int64 × Int32 × Int64 × Int64 × Int64 × Int64 × Int32 × (Nat → Int64) × (Nat → Int64) × (Nat → Int32) × (Nat → Int64) := (fX8_worthOf p1 p2 p3 M_at M_fault M_valueMany M_signMany M_tells M_way M_wish M_moreTick M_moreForce fNw fVs fSg fWs).2
        (r_23, u_22.1, u_22.2.1, u_22.2.2.1, u_22.2.2.2.1, u_22.2.2.2.2.1, u_22.2.2.2.2.2.1, u_22.2.2.2.2.2.2.1, u_22.2.2.2.2.2.2.2.1, u_22.2.2.2.2.2.2.2.2.1, u_22.2.2.2.2.2.2.2.2.2.1, u_22.2.2.2.2.2.2.2.2.2.2.1, u_22.2.2.2.2.2.2.2.2.2.2.2.1, u_22.2.2.2.2.2.2.2.2.2.2.2.2.1, u_22.2.2.2.2.2.2.2.2.2.2.2.2.2.1, u_22.2.2.2.2.2.2.2.2.2.2.2.2.2.2.1, u_22.2.2.2.2.2.2.2.2.2.2.2.2.2.2.2.1, u_22.2.2.2.2.2.2.2.2.2.2.2.2.2.2.2.2.1, u_22.2.2.2.2.2.2.2.2.2.2.2.2.2.2.2.2.2, fRf))))) : Int32 × Int32 × Int32 × Int32 × Int32 × Int64 × Int32 × Int64 × Int64 × Int32 × Int64 × Int64 × Int64 × Int64 × Int32 × (Nat → Int64) × (Nat → Int64) × (Nat → Int32) × (Nat → Int64) × (Nat → Int32))) er_2.symm).trans ((if_neg c_4).trans ((congrArg (fun (r_9 : Int32) => ((if r_9 = 0 then (
    let r_13 : Int32 := (fX8_bad (-10000000) fRf).1
    let u_12 : Nat → Int32 := (fX8_bad (-10000000) fRf).2
    (r_13, M_at, M_fault, M_valueMany, M_signMany, M_tells, M_way, M_moreTick, M_moreForce, M_runTurns, M_runFirst, M_runLast, M_peak, M_beside, M_besideAt, fNw, fVs, fSg, fWs, u_12))
  else (
    let r_16 : Int32 := fX8_isRun p3
    if r_16 = 0 then (
      let r_20 : Int32 := (fX8_bad (-10000000) fRf).1
      let u_19 : Nat → Int32 := (fX8_bad (-10000000) fRf).2
      (r_20, M_at, M_fault, M_valueMany, M_signMany, M_tells, M_way, M_moreTick, M_moreForce, M_runTurns, M_runFirst, M_runLast, M_peak, M_beside, M_besideAt, fNw, fVs, fSg, fWs, u_19))
    else (
      let r_23 : Int32 := (fX8_worthOf p1 p2 p3 M_at M_fault M_valueMany M_signMany M_tells M_way M_wish M_moreTick M_moreForce fNw fVs fSg fWs).1
      let u_22 : Int32 × Int32 × Int32 × Int32 × Int64 × Int32 × Int64 × Int64 × Int32 × Int64 × Int64 × Int64 × Int64 × Int32 × (Nat → Int64) × (Nat → Int64) × (Nat → Int32) × (Nat → Int64) := (fX8_worthOf p1 p2 p3 M_at M_fault M_valueMany M_signMany M_tells M_way M_wish M_moreTick M_moreForce fNw fVs fSg fWs).2
      (r_23, u_22.1, u_22.2.1, u_22.2.2.1, u_22.2.2.2.1, u_22.2.2.2.2.1, u_22.2.2.2.2.2.1, u_22.2.2.2.2.2.2.1, u_22.2.2.2.2.2.2.2.1, u_22.2.2.2.2.2.2.2.2.1, u_22.2.2.2.2.2.2.2.2.2.1, u_22.2.2.2.2.2.2.2.2.2.2.1, u_22.2.2.2.2.2.2.2.2.2.2.2.1, u_22.2.2.2.2.2.2.2.2.2.2.2.2.1, u_22.2.2.2.2.2.2.2.2.2.2.2.2.2.1, u_22.2.2.2.2.2.2.2.2.2.2.2.2.2.2.1, u_22.2.2.2.2.2.2.2.2.2.2.2.2.2.2.2.1, u_22.2.2.2.2.2.2.2.2.2.2.2.2.2.2.2.2.1, u_22.2.2.2.2.2.2.2.2.2.2.2.2.2.2.2.2.2, fRf)))) : Int32 × Int32 × Int32 × Int32 × Int32 × Int64 × Int32 × Int64 × Int64 × Int32 × Int64 × Int64 × Int64 × Int64 × Int32 × (Nat → Int64) × (Nat → Int64) × (Nat → Int32) × (Nat → Int64) × (Nat → Int32))) er_9.symm).trans ((if_pos c_11).trans ((congrArg (fun (r_13 : Int32) => ((let u_12 : Nat → Int32 := (fX8_bad (-10000000) fRf).2
  (r_13, M_at, M_fault, M_valueMany, M_signMany, M_tells, M_way, M_moreTick, M_moreForce, M_runTurns, M_runFirst, M_runLast, M_peak, M_beside, M_besideAt, fNw, fVs, fSg, fWs, u_12)) : Int32 × Int32 × Int32 × Int32 × Int32 × Int64 × Int32 × Int64 × Int64 × Int32 × Int64 × Int64 × Int64 × Int64 × Int32 × (Nat → Int64) × (Nat → Int64) × (Nat → Int32) × (Nat → Int64) × (Nat → Int32))) er_13.symm).trans ((congrArg (fun (u_12 : Nat → Int32) => (((r_13, M_at, M_fault, M_valueMany, M_signMany, M_tells, M_way, M_moreTick, M_moreForce, M_runTurns, M_runFirst, M_runLast, M_peak, M_beside, M_besideAt, fNw, fVs, fSg, fWs, u_12)) : Int32 × Int32 × Int32 × Int32 × Int32 × Int64 × Int32 × Int64 × Int64 × Int32 × Int64 × Int64 × Int64 × Int64 × Int32 × (Nat → Int64) × (Nat → Int64) × (Nat → Int32) × (Nat → Int64) × (Nat → Int32))) eu_12.symm))))))).symm
      have hf1 := congrArg Prod.fst hf
      have hf2 := congrArg Prod.snd hf
      have en_0 : fNw = fNw := by first | assumption | rfl
      have en_1 : (M_way : Int32) = 0 := by first | assumption | rfl
      have en_2 : (M_moreTick : Int64) = (-1) := by first | assumption | rfl
      exact kk_ei hx hb hr hlocks hK hq [4, 0, 1, 2, 3, 5] (M_at, M_fault, M_valueMany, M_signMany, M_tells, M_way, M_moreTick, M_moreForce, M_runTurns, M_runFirst, M_runLast, M_peak, M_beside, M_besideAt, fNw, fVs, fSg, fWs, u_12) rfl (by decide) dX8_worth_42 ⟨hf1, hf2, en_0, en_1, en_2⟩
    · skip
      refine lv_iload_n hx hb dX8_worth_19 rfl (lv_at hl 3 rfl) ?_
      refine kk_Si (As := [.int p3]) (rest := []) (wr := [(aM, .inr (8, [.ref aNw, .ref rM_kept, .ref rM_isKept, .ref aRf, .int M_at, .int M_fault, .ref aVs, .int M_valueMany, .ref aSg, .int M_signMany, .long M_tells, .int M_way, .int M_wish, .long M_moreTick, .long M_moreForce, .int M_runTurns, .long M_runFirst, .long M_runLast, .ref aWs, .long M_peak, .long M_beside, .int M_besideAt])), (aNw, .inl (cNw, 139, .inr (.inl fNw))), (aVs, .inl (cVs, 64, .inr (.inl fVs))), (aSg, .inl (cSg, 128, .inl fSg)), (aWs, .inl (cWs, 53, .inr (.inl fWs))), (aRf, .inl (cRf, 3, .inl fRf))]) ⟨hx, hb, hml, hown, hts⟩ (c_X8_isRun l G p3) (kk_cwS 1 hts hsb wd_536 wd_537 wd_5 wd_538 rfl rfl hd_X8_isRun ⟨Nat.le_of_ble_eq_true rfl, Nat.le_of_ble_eq_true rfl⟩) hA hK hq [] [0, 1, 2, 3, 4, 5] [] rfl rfl rfl (by decide) (by decide) (by decide) rfl hl.1 rfl (Nat.le_of_ble_eq_true rfl) dX8_worth_20 ⟨Nat.zero_le _, Nat.zero_le _⟩ (fun r_16 u_15 H locs h_17 hq => ?_)
      obtain ⟨er_16, zr_16⟩ := h_17
      have hq : kAt G A s [(aM, .inr (8, [.ref aNw, .ref rM_kept, .ref rM_isKept, .ref aRf, .int M_at, .int M_fault, .ref aVs, .int M_valueMany, .ref aSg, .int M_signMany, .long M_tells, .int M_way, .int M_wish, .long M_moreTick, .long M_moreForce, .int M_runTurns, .long M_runFirst, .long M_runLast, .ref aWs, .long M_peak, .long M_beside, .int M_besideAt])), (aNw, .inl (cNw, 139, .inr (.inl fNw))), (aVs, .inl (cVs, 64, .inr (.inl fVs))), (aSg, .inl (cSg, 128, .inl fSg)), (aWs, .inl (cWs, 53, .inr (.inl fWs))), (aRf, .inl (cRf, 3, .inl fRf))] H locs := hq
      have hrun := er_16
      refine lv_if_eq (tgt := 36) hx hb dX8_worth_23 (by decide) (fun c_18 => ?_) (fun c_18 => ?_)
      · skip
        refine lv_aload_n hx hb dX8_worth_36 rfl (lv_at hl 0 rfl) ?_
        refine lv_ldc hx hb hown lk1_ dX8_worth_37 ?_
        refine kk_Vi (As := [.int (-10000000)]) (rest := []) (wr := [(aNw, .inl (cNw, 139, .inr (.inl fNw))), (aVs, .inl (cVs, 64, .inr (.inl fVs))), (aSg, .inl (cSg, 128, .inl fSg)), (aWs, .inl (cWs, 53, .inr (.inl fWs)))]) ⟨hx, hb, hml, hown, hts⟩ (c_X8_bad l G aM aRf aNw rM_kept rM_isKept aVs aSg aWs cRf (-10000000) M_at M_fault M_valueMany M_signMany M_tells M_way M_wish M_moreTick M_moreForce M_runTurns M_runFirst M_runLast M_peak M_beside M_besideAt fRf) (kk_cwV 1 hts hsb wd_159 wd_160 wd_161 wd_5 wd_162 rfl rfl hd_X8_bad ⟨Nat.le_of_ble_eq_true rfl, Nat.le_of_ble_eq_true rfl⟩) hA hK hq [0, 5] [1, 2, 3, 4] [4] rfl rfl rfl (by decide) (by decide) (by decide) 0 8 rfl rfl rfl rfl hl.1 rfl (Nat.le_of_ble_eq_true rfl) dX8_worth_39 ⟨Nat.zero_le _, Nat.zero_le _⟩ (fun r_20 u_19 H locs h_21 hq => ?_)
        obtain ⟨er_20, eu_19⟩ := h_21
        have hq : kAt G A s [(aNw, .inl (cNw, 139, .inr (.inl fNw))), (aVs, .inl (cVs, 64, .inr (.inl fVs))), (aSg, .inl (cSg, 128, .inl fSg)), (aWs, .inl (cWs, 53, .inr (.inl fWs))), (aM, .inr (8, [.ref aNw, .ref rM_kept, .ref rM_isKept, .ref aRf, .int M_at, .int M_fault, .ref aVs, .int M_valueMany, .ref aSg, .int M_signMany, .long M_tells, .int M_way, .int M_wish, .long M_moreTick, .long M_moreForce, .int M_runTurns, .long M_runFirst, .long M_runLast, .ref aWs, .long M_peak, .long M_beside, .int M_besideAt])), (aRf, .inl (cRf, 3, .inl u_19))] H locs := hq
        have hf : ((r_20, M_at, M_fault, M_valueMany, M_signMany, M_tells, M_way, M_moreTick, M_moreForce, M_runTurns, M_runFirst, M_runLast, M_peak, M_beside, M_besideAt, fNw, fVs, fSg, fWs, u_19) : Int32 × Int32 × Int32 × Int32 × Int32 × Int64 × Int32 × Int64 × Int64 × Int32 × Int64 × Int64 × Int64 × Int64 × Int32 × (Nat → Int64) × (Nat → Int64) × (Nat → Int32) × (Nat → Int64) × (Nat → Int32)) = fX8_worth p1 p2 p3 M_at M_fault M_valueMany M_signMany M_tells M_way M_wish M_moreTick M_moreForce M_runTurns M_runFirst M_runLast M_peak M_beside M_besideAt fNw fVs fSg fWs fRf := by
          exact ((congrArg (fun (r_2 : Int32) => ((if r_2 = 0 then (
    let r_6 : Int32 := (fX8_bad (-10000000) fRf).1
    let u_5 : Nat → Int32 := (fX8_bad (-10000000) fRf).2
    (r_6, M_at, M_fault, M_valueMany, M_signMany, M_tells, M_way, M_moreTick, M_moreForce, M_runTurns, M_runFirst, M_runLast, M_peak, M_beside, M_besideAt, fNw, fVs, fSg, fWs, u_5))
  else (
    let r_9 : Int32 := fX8_isForce p2
    if r_9 = 0 then (
      let r_13 : Int32 := (fX8_bad (-10000000) fRf).1
      let u_12 : Nat → Int32 := (fX8_bad (-10000000) fRf).2
      (r_13, M_at, M_fault, M_valueMany, M_signMany, M_tells, M_way, M_moreTick, M_moreForce, M_runTurns, M_runFirst, M_runLast, M_peak, M_beside, M_besideAt, fNw, fVs, fSg, fWs, u_12))
    else (
      let r_16 : Int32 := fX8_isRun p3
      if r_16 = 0 then (
        let r_20 : Int32 := (fX8_bad (-10000000) fRf).1
        let u_19 : Nat → Int32 := (fX8_bad (-10000000) fRf).2
        (r_20, M_at, M_fault, M_valueMany, M_signMany, M_tells, M_way, M_moreTick, M_moreForce, M_runTurns, M_runFirst, M_runLast, M_peak, M_beside, M_besideAt, fNw, fVs, fSg, fWs, u_19))
      else (
        let r_23 : Int32 := (fX8_worthOf p1 p2 p3 M_at M_fault M_valueMany M_signMany M_tells M_way M_wish M_moreTick M_moreForce fNw fVs fSg fWs).1
        let u_22 : Int32 × Int32 × Int32 × Int32 × Int64 × Int32 × Int64 × Int64 × Int32 × Int64 × Int64 × Int64 × Int64 × Int32 × (Nat → Int64) × (Nat → Int64) × (Nat → Int32) × (Nat → Int64) := (fX8_worthOf p1 p2 p3 M_at M_fault M_valueMany M_signMany M_tells M_way M_wish M_moreTick M_moreForce fNw fVs fSg fWs).2
        (r_23, u_22.1, u_22.2.1, u_22.2.2.1, u_22.2.2.2.1, u_22.2.2.2.2.1, u_22.2.2.2.2.2.1, u_22.2.2.2.2.2.2.1, u_22.2.2.2.2.2.2.2.1, u_22.2.2.2.2.2.2.2.2.1, u_22.2.2.2.2.2.2.2.2.2.1, u_22.2.2.2.2.2.2.2.2.2.2.1, u_22.2.2.2.2.2.2.2.2.2.2.2.1, u_22.2.2.2.2.2.2.2.2.2.2.2.2.1, u_22.2.2.2.2.2.2.2.2.2.2.2.2.2.1, u_22.2.2.2.2.2.2.2.2.2.2.2.2.2.2.1, u_22.2.2.2.2.2.2.2.2.2.2.2.2.2.2.2.1, u_22.2.2.2.2.2.2.2.2.2.2.2.2.2.2.2.2.1, u_22.2.2.2.2.2.2.2.2.2.2.2.2.2.2.2.2.2, fRf))))) : Int32 × Int32 × Int32 × Int32 × Int32 × Int64 × Int32 × Int64 × Int64 × Int32 × Int64 × Int64 × Int64 × Int64 × Int32 × (Nat → Int64) × (Nat → Int64) × (Nat → Int32) × (Nat → Int64) × (Nat → Int32))) er_2.symm).trans ((if_neg c_4).trans ((congrArg (fun (r_9 : Int32) => ((if r_9 = 0 then (
    let r_13 : Int32 := (fX8_bad (-10000000) fRf).1
    let u_12 : Nat → Int32 := (fX8_bad (-10000000) fRf).2
    (r_13, M_at, M_fault, M_valueMany, M_signMany, M_tells, M_way, M_moreTick, M_moreForce, M_runTurns, M_runFirst, M_runLast, M_peak, M_beside, M_besideAt, fNw, fVs, fSg, fWs, u_12))
  else (
    let r_16 : Int32 := fX8_isRun p3
    if r_16 = 0 then (
      let r_20 : Int32 := (fX8_bad (-10000000) fRf).1
      let u_19 : Nat → Int32 := (fX8_bad (-10000000) fRf).2
      (r_20, M_at, M_fault, M_valueMany, M_signMany, M_tells, M_way, M_moreTick, M_moreForce, M_runTurns, M_runFirst, M_runLast, M_peak, M_beside, M_besideAt, fNw, fVs, fSg, fWs, u_19))
    else (
      let r_23 : Int32 := (fX8_worthOf p1 p2 p3 M_at M_fault M_valueMany M_signMany M_tells M_way M_wish M_moreTick M_moreForce fNw fVs fSg fWs).1
      let u_22 : Int32 × Int32 × Int32 × Int32 × Int64 × Int32 × Int64 × Int64 × Int32 × Int64 × Int64 × Int64 × Int64 × Int32 × (Nat → Int64) × (Nat → Int64) × (Nat → Int32) × (Nat → Int64) := (fX8_worthOf p1 p2 p3 M_at M_fault M_valueMany M_signMany M_tells M_way M_wish M_moreTick M_moreForce fNw fVs fSg fWs).2
      (r_23, u_22.1, u_22.2.1, u_22.2.2.1, u_22.2.2.2.1, u_22.2.2.2.2.1, u_22.2.2.2.2.2.1, u_22.2.2.2.2.2.2.1, u_22.2.2.2.2.2.2.2.1, u_22.2.2.2.2.2.2.2.2.1, u_22.2.2.2.2.2.2.2.2.2.1, u_22.2.2.2.2.2.2.2.2.2.2.1, u_22.2.2.2.2.2.2.2.2.2.2.2.1, u_22.2.2.2.2.2.2.2.2.2.2.2.2.1, u_22.2.2.2.2.2.2.2.2.2.2.2.2.2.1, u_22.2.2.2.2.2.2.2.2.2.2.2.2.2.2.1, u_22.2.2.2.2.2.2.2.2.2.2.2.2.2.2.2.1, u_22.2.2.2.2.2.2.2.2.2.2.2.2.2.2.2.2.1, u_22.2.2.2.2.2.2.2.2.2.2.2.2.2.2.2.2.2, fRf)))) : Int32 × Int32 × Int32 × Int32 × Int32 × Int64 × Int32 × Int64 × Int64 × Int32 × Int64 × Int64 × Int64 × Int64 × Int32 × (Nat → Int64) × (Nat → Int64) × (Nat → Int32) × (Nat → Int64) × (Nat → Int32))) er_9.symm).trans ((if_neg c_11).trans ((congrArg (fun (r_16 : Int32) => ((if r_16 = 0 then (
    let r_20 : Int32 := (fX8_bad (-10000000) fRf).1
    let u_19 : Nat → Int32 := (fX8_bad (-10000000) fRf).2
    (r_20, M_at, M_fault, M_valueMany, M_signMany, M_tells, M_way, M_moreTick, M_moreForce, M_runTurns, M_runFirst, M_runLast, M_peak, M_beside, M_besideAt, fNw, fVs, fSg, fWs, u_19))
  else (
    let r_23 : Int32 := (fX8_worthOf p1 p2 p3 M_at M_fault M_valueMany M_signMany M_tells M_way M_wish M_moreTick M_moreForce fNw fVs fSg fWs).1
    let u_22 : Int32 × Int32 × Int32 × Int32 × Int64 × Int32 × Int64 × Int64 × Int32 × Int64 × Int64 × Int64 × Int64 × Int32 × (Nat → Int64) × (Nat → Int64) × (Nat → Int32) × (Nat → Int64) := (fX8_worthOf p1 p2 p3 M_at M_fault M_valueMany M_signMany M_tells M_way M_wish M_moreTick M_moreForce fNw fVs fSg fWs).2
    (r_23, u_22.1, u_22.2.1, u_22.2.2.1, u_22.2.2.2.1, u_22.2.2.2.2.1, u_22.2.2.2.2.2.1, u_22.2.2.2.2.2.2.1, u_22.2.2.2.2.2.2.2.1, u_22.2.2.2.2.2.2.2.2.1, u_22.2.2.2.2.2.2.2.2.2.1, u_22.2.2.2.2.2.2.2.2.2.2.1, u_22.2.2.2.2.2.2.2.2.2.2.2.1, u_22.2.2.2.2.2.2.2.2.2.2.2.2.1, u_22.2.2.2.2.2.2.2.2.2.2.2.2.2.1, u_22.2.2.2.2.2.2.2.2.2.2.2.2.2.2.1, u_22.2.2.2.2.2.2.2.2.2.2.2.2.2.2.2.1, u_22.2.2.2.2.2.2.2.2.2.2.2.2.2.2.2.2.1, u_22.2.2.2.2.2.2.2.2.2.2.2.2.2.2.2.2.2, fRf))) : Int32 × Int32 × Int32 × Int32 × Int32 × Int64 × Int32 × Int64 × Int64 × Int32 × Int64 × Int64 × Int64 × Int64 × Int32 × (Nat → Int64) × (Nat → Int64) × (Nat → Int32) × (Nat → Int64) × (Nat → Int32))) er_16.symm).trans ((if_pos c_18).trans ((congrArg (fun (r_20 : Int32) => ((let u_19 : Nat → Int32 := (fX8_bad (-10000000) fRf).2
  (r_20, M_at, M_fault, M_valueMany, M_signMany, M_tells, M_way, M_moreTick, M_moreForce, M_runTurns, M_runFirst, M_runLast, M_peak, M_beside, M_besideAt, fNw, fVs, fSg, fWs, u_19)) : Int32 × Int32 × Int32 × Int32 × Int32 × Int64 × Int32 × Int64 × Int64 × Int32 × Int64 × Int64 × Int64 × Int64 × Int32 × (Nat → Int64) × (Nat → Int64) × (Nat → Int32) × (Nat → Int64) × (Nat → Int32))) er_20.symm).trans ((congrArg (fun (u_19 : Nat → Int32) => (((r_20, M_at, M_fault, M_valueMany, M_signMany, M_tells, M_way, M_moreTick, M_moreForce, M_runTurns, M_runFirst, M_runLast, M_peak, M_beside, M_besideAt, fNw, fVs, fSg, fWs, u_19)) : Int32 × Int32 × Int32 × Int32 × Int32 × Int64 × Int32 × Int64 × Int64 × Int32 × Int64 × Int64 × Int64 × Int64 × Int32 × (Nat → Int64) × (Nat → Int64) × (Nat → Int32) × (Nat → Int64) × (Nat → Int32))) eu_19.symm))))))))).symm
        have hf1 := congrArg Prod.fst hf
        have hf2 := congrArg Prod.snd hf
        have en_0 : fNw = fNw := by first | assumption | rfl
        have en_1 : (M_way : Int32) = 0 := by first | assumption | rfl
        have en_2 : (M_moreTick : Int64) = (-1) := by first | assumption | rfl
        exact kk_ei hx hb hr hlocks hK hq [4, 0, 1, 2, 3, 5] (M_at, M_fault, M_valueMany, M_signMany, M_tells, M_way, M_moreTick, M_moreForce, M_runTurns, M_runFirst, M_runLast, M_peak, M_beside, M_besideAt, fNw, fVs, fSg, fWs, u_19) rfl (by decide) dX8_worth_42 ⟨hf1, hf2, en_0, en_1, en_2⟩
      · skip
        have hn := run8_le (hrun ▸ c_18)
        refine lv_aload_n hx hb dX8_worth_26 rfl (lv_at hl 0 rfl) ?_
        refine lv_iload_n hx hb dX8_worth_27 rfl (lv_at hl 1 rfl) ?_
        refine lv_iload_n hx hb dX8_worth_28 rfl (lv_at hl 2 rfl) ?_
        refine lv_iload_n hx hb dX8_worth_29 rfl (lv_at hl 3 rfl) ?_
        refine kk_Vi (As := [.int p1, .int p2, .int p3]) (rest := []) (wr := [(aRf, .inl (cRf, 3, .inl fRf))]) ⟨hx, hb, hml, hown, hts⟩ (c_X8_worthOf l G aM aNw aVs aSg aWs rM_kept rM_isKept aRf cNw cVs cSg cWs p1 p2 p3 M_at M_fault M_valueMany M_signMany M_tells M_way M_wish M_moreTick M_moreForce M_runTurns M_runFirst M_runLast M_peak M_beside M_besideAt fNw fVs fSg fWs wn w0 tb hn.2) (kk_cwV 3 hts hsb wd_666 wd_667 wd_668 wd_5 wd_669 rfl rfl hd_X8_worthOf ⟨Nat.le_of_ble_eq_true rfl, Nat.le_of_ble_eq_true rfl⟩) hA hK hq [0, 1, 2, 3, 4] [5] [0, 1, 2, 3] rfl rfl rfl (by decide) (by decide) (by decide) 0 8 rfl rfl rfl rfl hl.1 rfl (Nat.le_of_ble_eq_true rfl) dX8_worth_30 ⟨Nat.zero_le _, Nat.zero_le _⟩ (fun r_23 u_22 H locs h_24 hq => ?_)
        obtain ⟨er_23, eu_22, nw_u_22, wy_u_22, mt_u_22⟩ := h_24
        have hq : kAt G A s [(aRf, .inl (cRf, 3, .inl fRf)), (aM, .inr (8, [.ref aNw, .ref rM_kept, .ref rM_isKept, .ref aRf, .int u_22.1, .int u_22.2.1, .ref aVs, .int u_22.2.2.1, .ref aSg, .int u_22.2.2.2.1, .long u_22.2.2.2.2.1, .int u_22.2.2.2.2.2.1, .int M_wish, .long u_22.2.2.2.2.2.2.1, .long u_22.2.2.2.2.2.2.2.1, .int u_22.2.2.2.2.2.2.2.2.1, .long u_22.2.2.2.2.2.2.2.2.2.1, .long u_22.2.2.2.2.2.2.2.2.2.2.1, .ref aWs, .long u_22.2.2.2.2.2.2.2.2.2.2.2.1, .long u_22.2.2.2.2.2.2.2.2.2.2.2.2.1, .int u_22.2.2.2.2.2.2.2.2.2.2.2.2.2.1])), (aNw, .inl (cNw, 139, .inr (.inl u_22.2.2.2.2.2.2.2.2.2.2.2.2.2.2.1))), (aVs, .inl (cVs, 64, .inr (.inl u_22.2.2.2.2.2.2.2.2.2.2.2.2.2.2.2.1))), (aSg, .inl (cSg, 128, .inl u_22.2.2.2.2.2.2.2.2.2.2.2.2.2.2.2.2.1)), (aWs, .inl (cWs, 53, .inr (.inl u_22.2.2.2.2.2.2.2.2.2.2.2.2.2.2.2.2.2)))] H locs := hq
        refine lv_goto (tgt := 42) hx hb dX8_worth_33 (by decide) ?_
        have hf : ((r_23, u_22.1, u_22.2.1, u_22.2.2.1, u_22.2.2.2.1, u_22.2.2.2.2.1, u_22.2.2.2.2.2.1, u_22.2.2.2.2.2.2.1, u_22.2.2.2.2.2.2.2.1, u_22.2.2.2.2.2.2.2.2.1, u_22.2.2.2.2.2.2.2.2.2.1, u_22.2.2.2.2.2.2.2.2.2.2.1, u_22.2.2.2.2.2.2.2.2.2.2.2.1, u_22.2.2.2.2.2.2.2.2.2.2.2.2.1, u_22.2.2.2.2.2.2.2.2.2.2.2.2.2.1, u_22.2.2.2.2.2.2.2.2.2.2.2.2.2.2.1, u_22.2.2.2.2.2.2.2.2.2.2.2.2.2.2.2.1, u_22.2.2.2.2.2.2.2.2.2.2.2.2.2.2.2.2.1, u_22.2.2.2.2.2.2.2.2.2.2.2.2.2.2.2.2.2, fRf) : Int32 × Int32 × Int32 × Int32 × Int32 × Int64 × Int32 × Int64 × Int64 × Int32 × Int64 × Int64 × Int64 × Int64 × Int32 × (Nat → Int64) × (Nat → Int64) × (Nat → Int32) × (Nat → Int64) × (Nat → Int32)) = fX8_worth p1 p2 p3 M_at M_fault M_valueMany M_signMany M_tells M_way M_wish M_moreTick M_moreForce M_runTurns M_runFirst M_runLast M_peak M_beside M_besideAt fNw fVs fSg fWs fRf := by
          exact ((congrArg (fun (r_2 : Int32) => ((if r_2 = 0 then (
    let r_6 : Int32 := (fX8_bad (-10000000) fRf).1
    let u_5 : Nat → Int32 := (fX8_bad (-10000000) fRf).2
    (r_6, M_at, M_fault, M_valueMany, M_signMany, M_tells, M_way, M_moreTick, M_moreForce, M_runTurns, M_runFirst, M_runLast, M_peak, M_beside, M_besideAt, fNw, fVs, fSg, fWs, u_5))
  else (
    let r_9 : Int32 := fX8_isForce p2
    if r_9 = 0 then (
      let r_13 : Int32 := (fX8_bad (-10000000) fRf).1
      let u_12 : Nat → Int32 := (fX8_bad (-10000000) fRf).2
      (r_13, M_at, M_fault, M_valueMany, M_signMany, M_tells, M_way, M_moreTick, M_moreForce, M_runTurns, M_runFirst, M_runLast, M_peak, M_beside, M_besideAt, fNw, fVs, fSg, fWs, u_12))
    else (
      let r_16 : Int32 := fX8_isRun p3
      if r_16 = 0 then (
        let r_20 : Int32 := (fX8_bad (-10000000) fRf).1
        let u_19 : Nat → Int32 := (fX8_bad (-10000000) fRf).2
        (r_20, M_at, M_fault, M_valueMany, M_signMany, M_tells, M_way, M_moreTick, M_moreForce, M_runTurns, M_runFirst, M_runLast, M_peak, M_beside, M_besideAt, fNw, fVs, fSg, fWs, u_19))
      else (
        let r_23 : Int32 := (fX8_worthOf p1 p2 p3 M_at M_fault M_valueMany M_signMany M_tells M_way M_wish M_moreTick M_moreForce fNw fVs fSg fWs).1
        let u_22 : Int32 × Int32 × Int32 × Int32 × Int64 × Int32 × Int64 × Int64 × Int32 × Int64 × Int64 × Int64 × Int64 × Int32 × (Nat → Int64) × (Nat → Int64) × (Nat → Int32) × (Nat → Int64) := (fX8_worthOf p1 p2 p3 M_at M_fault M_valueMany M_signMany M_tells M_way M_wish M_moreTick M_moreForce fNw fVs fSg fWs).2
        (r_23, u_22.1, u_22.2.1, u_22.2.2.1, u_22.2.2.2.1, u_22.2.2.2.2.1, u_22.2.2.2.2.2.1, u_22.2.2.2.2.2.2.1, u_22.2.2.2.2.2.2.2.1, u_22.2.2.2.2.2.2.2.2.1, u_22.2.2.2.2.2.2.2.2.2.1, u_22.2.2.2.2.2.2.2.2.2.2.1, u_22.2.2.2.2.2.2.2.2.2.2.2.1, u_22.2.2.2.2.2.2.2.2.2.2.2.2.1, u_22.2.2.2.2.2.2.2.2.2.2.2.2.2.1, u_22.2.2.2.2.2.2.2.2.2.2.2.2.2.2.1, u_22.2.2.2.2.2.2.2.2.2.2.2.2.2.2.2.1, u_22.2.2.2.2.2.2.2.2.2.2.2.2.2.2.2.2.1, u_22.2.2.2.2.2.2.2.2.2.2.2.2.2.2.2.2.2, fRf))))) : Int32 × Int32 × Int32 × Int32 × Int32 × Int64 × Int32 × Int64 × Int64 × Int32 × Int64 × Int64 × Int64 × Int64 × Int32 × (Nat → Int64) × (Nat → Int64) × (Nat → Int32) × (Nat → Int64) × (Nat → Int32))) er_2.symm).trans ((if_neg c_4).trans ((congrArg (fun (r_9 : Int32) => ((if r_9 = 0 then (
    let r_13 : Int32 := (fX8_bad (-10000000) fRf).1
    let u_12 : Nat → Int32 := (fX8_bad (-10000000) fRf).2
    (r_13, M_at, M_fault, M_valueMany, M_signMany, M_tells, M_way, M_moreTick, M_moreForce, M_runTurns, M_runFirst, M_runLast, M_peak, M_beside, M_besideAt, fNw, fVs, fSg, fWs, u_12))
  else (
    let r_16 : Int32 := fX8_isRun p3
    if r_16 = 0 then (
      let r_20 : Int32 := (fX8_bad (-10000000) fRf).1
      let u_19 : Nat → Int32 := (fX8_bad (-10000000) fRf).2
      (r_20, M_at, M_fault, M_valueMany, M_signMany, M_tells, M_way, M_moreTick, M_moreForce, M_runTurns, M_runFirst, M_runLast, M_peak, M_beside, M_besideAt, fNw, fVs, fSg, fWs, u_19))
    else (
      let r_23 : Int32 := (fX8_worthOf p1 p2 p3 M_at M_fault M_valueMany M_signMany M_tells M_way M_wish M_moreTick M_moreForce fNw fVs fSg fWs).1
      let u_22 : Int32 × Int32 × Int32 × Int32 × Int64 × Int32 × Int64 × Int64 × Int32 × Int64 × Int64 × Int64 × Int64 × Int32 × (Nat → Int64) × (Nat → Int64) × (Nat → Int32) × (Nat → Int64) := (fX8_worthOf p1 p2 p3 M_at M_fault M_valueMany M_signMany M_tells M_way M_wish M_moreTick M_moreForce fNw fVs fSg fWs).2
      (r_23, u_22.1, u_22.2.1, u_22.2.2.1, u_22.2.2.2.1, u_22.2.2.2.2.1, u_22.2.2.2.2.2.1, u_22.2.2.2.2.2.2.1, u_22.2.2.2.2.2.2.2.1, u_22.2.2.2.2.2.2.2.2.1, u_22.2.2.2.2.2.2.2.2.2.1, u_22.2.2.2.2.2.2.2.2.2.2.1, u_22.2.2.2.2.2.2.2.2.2.2.2.1, u_22.2.2.2.2.2.2.2.2.2.2.2.2.1, u_22.2.2.2.2.2.2.2.2.2.2.2.2.2.1, u_22.2.2.2.2.2.2.2.2.2.2.2.2.2.2.1, u_22.2.2.2.2.2.2.2.2.2.2.2.2.2.2.2.1, u_22.2.2.2.2.2.2.2.2.2.2.2.2.2.2.2.2.1, u_22.2.2.2.2.2.2.2.2.2.2.2.2.2.2.2.2.2, fRf)))) : Int32 × Int32 × Int32 × Int32 × Int32 × Int64 × Int32 × Int64 × Int64 × Int32 × Int64 × Int64 × Int64 × Int64 × Int32 × (Nat → Int64) × (Nat → Int64) × (Nat → Int32) × (Nat → Int64) × (Nat → Int32))) er_9.symm).trans ((if_neg c_11).trans ((congrArg (fun (r_16 : Int32) => ((if r_16 = 0 then (
    let r_20 : Int32 := (fX8_bad (-10000000) fRf).1
    let u_19 : Nat → Int32 := (fX8_bad (-10000000) fRf).2
    (r_20, M_at, M_fault, M_valueMany, M_signMany, M_tells, M_way, M_moreTick, M_moreForce, M_runTurns, M_runFirst, M_runLast, M_peak, M_beside, M_besideAt, fNw, fVs, fSg, fWs, u_19))
  else (
    let r_23 : Int32 := (fX8_worthOf p1 p2 p3 M_at M_fault M_valueMany M_signMany M_tells M_way M_wish M_moreTick M_moreForce fNw fVs fSg fWs).1
    let u_22 : Int32 × Int32 × Int32 × Int32 × Int64 × Int32 × Int64 × Int64 × Int32 × Int64 × Int64 × Int64 × Int64 × Int32 × (Nat → Int64) × (Nat → Int64) × (Nat → Int32) × (Nat → Int64) := (fX8_worthOf p1 p2 p3 M_at M_fault M_valueMany M_signMany M_tells M_way M_wish M_moreTick M_moreForce fNw fVs fSg fWs).2
    (r_23, u_22.1, u_22.2.1, u_22.2.2.1, u_22.2.2.2.1, u_22.2.2.2.2.1, u_22.2.2.2.2.2.1, u_22.2.2.2.2.2.2.1, u_22.2.2.2.2.2.2.2.1, u_22.2.2.2.2.2.2.2.2.1, u_22.2.2.2.2.2.2.2.2.2.1, u_22.2.2.2.2.2.2.2.2.2.2.1, u_22.2.2.2.2.2.2.2.2.2.2.2.1, u_22.2.2.2.2.2.2.2.2.2.2.2.2.1, u_22.2.2.2.2.2.2.2.2.2.2.2.2.2.1, u_22.2.2.2.2.2.2.2.2.2.2.2.2.2.2.1, u_22.2.2.2.2.2.2.2.2.2.2.2.2.2.2.2.1, u_22.2.2.2.2.2.2.2.2.2.2.2.2.2.2.2.2.1, u_22.2.2.2.2.2.2.2.2.2.2.2.2.2.2.2.2.2, fRf))) : Int32 × Int32 × Int32 × Int32 × Int32 × Int64 × Int32 × Int64 × Int64 × Int32 × Int64 × Int64 × Int64 × Int64 × Int32 × (Nat → Int64) × (Nat → Int64) × (Nat → Int32) × (Nat → Int64) × (Nat → Int32))) er_16.symm).trans ((if_neg c_18).trans ((congrArg (fun (r_23 : Int32) => ((let u_22 : Int32 × Int32 × Int32 × Int32 × Int64 × Int32 × Int64 × Int64 × Int32 × Int64 × Int64 × Int64 × Int64 × Int32 × (Nat → Int64) × (Nat → Int64) × (Nat → Int32) × (Nat → Int64) := (fX8_worthOf p1 p2 p3 M_at M_fault M_valueMany M_signMany M_tells M_way M_wish M_moreTick M_moreForce fNw fVs fSg fWs).2
  (r_23, u_22.1, u_22.2.1, u_22.2.2.1, u_22.2.2.2.1, u_22.2.2.2.2.1, u_22.2.2.2.2.2.1, u_22.2.2.2.2.2.2.1, u_22.2.2.2.2.2.2.2.1, u_22.2.2.2.2.2.2.2.2.1, u_22.2.2.2.2.2.2.2.2.2.1, u_22.2.2.2.2.2.2.2.2.2.2.1, u_22.2.2.2.2.2.2.2.2.2.2.2.1, u_22.2.2.2.2.2.2.2.2.2.2.2.2.1, u_22.2.2.2.2.2.2.2.2.2.2.2.2.2.1, u_22.2.2.2.2.2.2.2.2.2.2.2.2.2.2.1, u_22.2.2.2.2.2.2.2.2.2.2.2.2.2.2.2.1, u_22.2.2.2.2.2.2.2.2.2.2.2.2.2.2.2.2.1, u_22.2.2.2.2.2.2.2.2.2.2.2.2.2.2.2.2.2, fRf)) : Int32 × Int32 × Int32 × Int32 × Int32 × Int64 × Int32 × Int64 × Int64 × Int32 × Int64 × Int64 × Int64 × Int64 × Int32 × (Nat → Int64) × (Nat → Int64) × (Nat → Int32) × (Nat → Int64) × (Nat → Int32))) er_23.symm).trans ((congrArg (fun (u_22 : Int32 × Int32 × Int32 × Int32 × Int64 × Int32 × Int64 × Int64 × Int32 × Int64 × Int64 × Int64 × Int64 × Int32 × (Nat → Int64) × (Nat → Int64) × (Nat → Int32) × (Nat → Int64)) => (((r_23, u_22.1, u_22.2.1, u_22.2.2.1, u_22.2.2.2.1, u_22.2.2.2.2.1, u_22.2.2.2.2.2.1, u_22.2.2.2.2.2.2.1, u_22.2.2.2.2.2.2.2.1, u_22.2.2.2.2.2.2.2.2.1, u_22.2.2.2.2.2.2.2.2.2.1, u_22.2.2.2.2.2.2.2.2.2.2.1, u_22.2.2.2.2.2.2.2.2.2.2.2.1, u_22.2.2.2.2.2.2.2.2.2.2.2.2.1, u_22.2.2.2.2.2.2.2.2.2.2.2.2.2.1, u_22.2.2.2.2.2.2.2.2.2.2.2.2.2.2.1, u_22.2.2.2.2.2.2.2.2.2.2.2.2.2.2.2.1, u_22.2.2.2.2.2.2.2.2.2.2.2.2.2.2.2.2.1, u_22.2.2.2.2.2.2.2.2.2.2.2.2.2.2.2.2.2, fRf)) : Int32 × Int32 × Int32 × Int32 × Int32 × Int64 × Int32 × Int64 × Int64 × Int32 × Int64 × Int64 × Int64 × Int64 × Int32 × (Nat → Int64) × (Nat → Int64) × (Nat → Int32) × (Nat → Int64) × (Nat → Int32))) eu_22.symm))))))))).symm
        have hf1 := congrArg Prod.fst hf
        have hf2 := congrArg Prod.snd hf
        have en_0 : u_22.2.2.2.2.2.2.2.2.2.2.2.2.2.2.1 = fNw := by first | assumption | rfl
        have en_1 : (u_22.2.2.2.2.2.1 : Int32) = 0 := by first | assumption | rfl
        have en_2 : (u_22.2.2.2.2.2.2.1 : Int64) = (-1) := by first | assumption | rfl
        exact kk_ei hx hb hr hlocks hK hq [1, 2, 3, 4, 5, 0] (u_22.1, u_22.2.1, u_22.2.2.1, u_22.2.2.2.1, u_22.2.2.2.2.1, u_22.2.2.2.2.2.1, u_22.2.2.2.2.2.2.1, u_22.2.2.2.2.2.2.2.1, u_22.2.2.2.2.2.2.2.2.1, u_22.2.2.2.2.2.2.2.2.2.1, u_22.2.2.2.2.2.2.2.2.2.2.1, u_22.2.2.2.2.2.2.2.2.2.2.2.1, u_22.2.2.2.2.2.2.2.2.2.2.2.2.1, u_22.2.2.2.2.2.2.2.2.2.2.2.2.2.1, u_22.2.2.2.2.2.2.2.2.2.2.2.2.2.2.1, u_22.2.2.2.2.2.2.2.2.2.2.2.2.2.2.2.1, u_22.2.2.2.2.2.2.2.2.2.2.2.2.2.2.2.2.1, u_22.2.2.2.2.2.2.2.2.2.2.2.2.2.2.2.2.2, fRf) rfl (by decide) dX8_worth_42 ⟨hf1, hf2, en_0, en_1, en_2⟩
