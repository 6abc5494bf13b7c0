def lpX8_when_56 (p1 : Int32) (p2 : Int32) (p3 : Int32) (M_wish : Int32) : Nat → Int32 → Int32 → Int32 → Int32 → Int32 → Int32 → Int32 → Int32 → Int64 → Int32 → Int64 → Int64 → Int64 → Int64 → Int32 → Int32 → Int64 → Int64 → (Nat → Int64) → (Nat → Int64) → (Nat → Int32) → (Nat → Int64) → Int32 × Int32 × Int32 × Int32 × Int32 × Int32 × Int32 × Int32 × Int64 × Int32 × Int64 × Int64 × Int64 × Int64 × Int32 × Int32 × Int64 × Int64 × (Nat → Int64) × (Nat → Int64) × (Nat → Int32) × (Nat → Int64)
  | 0, _, _, _, _, _, _, _, _, _, _, _, _, _, _, _, _, _, _, _, _, _, _ => (0, 0, 0, 0, 0, 0, 0, 0, 0, 0, 0, 0, 0, 0, 0, 0, 0, 0, fun _ => 0, fun _ => 0, fun _ => 0, fun _ => 0)
  | N + 1, i, bs, mo, br, at_, fl, vn, sm, te, rt, rf, rl, pk, be, ba, wy, mtk, mf, nf, vf, sf, ws =>
    if p3 ≤ i then (
    (i, bs, mo, br, at_, fl, vn, sm, te, rt, rf, rl, pk, be, ba, wy, mtk, mf, nf, vf, sf, ws))
    else (
    let r_28 : Int32 := (fX8_worthOf i p1 p2 at_ fl vn sm te wy M_wish mtk mf nf vf sf ws).1
    let u_27 : Int32 × Int32 × Int32 × Int32 × Int64 × Int32 × Int64 × Int64 × Int32 × Int64 × Int64 × Int64 × Int64 × Int32 × (Nat → Int64) × (Nat → Int64) × (Nat → Int32) × (Nat → Int64) := (fX8_worthOf i p1 p2 at_ fl vn sm te wy M_wish mtk mf nf vf sf ws).2
    let y6_31 : Int32 := if i = 0 then r_28 else if r_28 ≤ mo then mo else r_28
    let y5_32 : Int32 := if i = 0 then i else if r_28 ≤ mo then bs else i
    let z0_35 : Int32 := if 0 ≤ r_28 then 0 else 1
    let x7_37 : Int32 := br + z0_35
    lpX8_when_56 p1 p2 p3 M_wish N (i + 1) y5_32 y6_31 x7_37 u_27.1 u_27.2.1 u_27.2.2.1 u_27.2.2.2.1 u_27.2.2.2.2.1 u_27.2.2.2.2.2.2.2.2.1 u_27.2.2.2.2.2.2.2.2.2.1 u_27.2.2.2.2.2.2.2.2.2.2.1 u_27.2.2.2.2.2.2.2.2.2.2.2.1 u_27.2.2.2.2.2.2.2.2.2.2.2.2.1 u_27.2.2.2.2.2.2.2.2.2.2.2.2.2.1 u_27.2.2.2.2.2.1 u_27.2.2.2.2.2.2.1 u_27.2.2.2.2.2.2.2.1 u_27.2.2.2.2.2.2.2.2.2.2.2.2.2.2.1 u_27.2.2.2.2.2.2.2.2.2.2.2.2.2.2.2.1 u_27.2.2.2.2.2.2.2.2.2.2.2.2.2.2.2.2.1 u_27.2.2.2.2.2.2.2.2.2.2.2.2.2.2.2.2.2)

def fX8_when (p1 : Int32) (p2 : Int32) (p3 : Int32) (p4 : Int32) (M_at : Int32) (M_fault : Int32) (M_valueMany : Int32) (M_signMany : Int32) (M_tells : Int64) (M_way : Int32) (M_wish : Int32) (M_moreTick : Int64) (M_moreForce : Int64) (M_runTurns : Int32) (M_runFirst : Int64) (M_runLast : Int64) (M_peak : Int64) (M_beside : Int64) (M_besideAt : Int32) (fNw : Nat → Int64) (fVs : Nat → Int64) (fSg : Nat → Int32) (fWs : Nat → Int64) (fRf : Nat → Int32) : Int32 × Int32 × Int32 × Int32 × Int32 × Int64 × Int32 × Int64 × Int64 × Int32 × Int64 × Int64 × Int64 × Int64 × Int32 × (Nat → Int64) × (Nat → Int64) × (Nat → Int32) × (Nat → Int64) × (Nat → Int32) :=
  let r_2 : Int32 := fX8_isForce p1
  if r_2 = 0 then (
    let r_6 : Int32 := (fX8_bad (-2) fRf).1
    let u_5 : Nat → Int32 := (fX8_bad (-2) fRf).2
    (r_6, M_at, M_fault, M_valueMany, M_signMany, M_tells, M_way, M_moreTick, M_moreForce, M_runTurns, M_runFirst, M_runLast, M_peak, M_beside, M_besideAt, fNw, fVs, fSg, fWs, u_5))
  else (
    let r_9 : Int32 := fX8_isRun p2
    if r_9 = 0 then (
      let r_13 : Int32 := (fX8_bad (-2) fRf).1
      let u_12 : Nat → Int32 := (fX8_bad (-2) fRf).2
      (r_13, M_at, M_fault, M_valueMany, M_signMany, M_tells, M_way, M_moreTick, M_moreForce, M_runTurns, M_runFirst, M_runLast, M_peak, M_beside, M_besideAt, fNw, fVs, fSg, fWs, u_12))
    else (
      let r_16 : Int32 := fX8_in p3.toInt64 1 40
      if r_16 = 0 then (
        let r_20 : Int32 := (fX8_bad (-2) fRf).1
        let u_19 : Nat → Int32 := (fX8_bad (-2) fRf).2
        (r_20, M_at, M_fault, M_valueMany, M_signMany, M_tells, M_way, M_moreTick, M_moreForce, M_runTurns, M_runFirst, M_runLast, M_peak, M_beside, M_besideAt, fNw, fVs, fSg, fWs, u_19))
      else (
        let r_23 : Int32 := fX8_in p4.toInt64 0 1
        if r_23 = 0 then (
          let r_47 : Int32 := (fX8_bad (-2) fRf).1
          let u_46 : Nat → Int32 := (fX8_bad (-2) fRf).2
          (r_47, M_at, M_fault, M_valueMany, M_signMany, M_tells, M_way, M_moreTick, M_moreForce, M_runTurns, M_runFirst, M_runLast, M_peak, M_beside, M_besideAt, fNw, fVs, fSg, fWs, u_46))
        else (
          let z_29 : Int32 × Int32 × Int32 × Int32 × Int32 × Int32 × Int32 × Int32 × Int64 × Int32 × Int64 × Int64 × Int64 × Int64 × Int32 × Int32 × Int64 × Int64 × (Nat → Int64) × (Nat → Int64) × (Nat → Int32) × (Nat → Int64) := lpX8_when_56 p1 p2 p3 M_wish (41) 0 0 0 0 M_at M_fault M_valueMany M_signMany M_tells M_runTurns M_runFirst M_runLast M_peak M_beside M_besideAt M_way M_moreTick M_moreForce fNw fVs fSg fWs
          let z0_31 : Int32 := if p4 = 0 then z_29.2.1 else z_29.2.2.2.1
          (z0_31, z_29.2.2.2.2.1, z_29.2.2.2.2.2.1, z_29.2.2.2.2.2.2.1, z_29.2.2.2.2.2.2.2.1, z_29.2.2.2.2.2.2.2.2.1, z_29.2.2.2.2.2.2.2.2.2.2.2.2.2.2.2.1, z_29.2.2.2.2.2.2.2.2.2.2.2.2.2.2.2.2.1, z_29.2.2.2.2.2.2.2.2.2.2.2.2.2.2.2.2.2.1, z_29.2.2.2.2.2.2.2.2.2.1, z_29.2.2.2.2.2.2.2.2.2.2.1, z_29.2.2.2.2.2.2.2.2.2.2.2.1, z_29.2.2.2.2.2.2.2.2.2.2.2.2.1, z_29.2.2.2.2.2.2.2.2.2.2.2.2.2.1, z_29.2.2.2.2.2.2.2.2.2.2.2.2.2.2.1, z_29.2.2.2.2.2.2.2.2.2.2.2.2.2.2.2.2.2.2.1, z_29.2.2.2.2.2.2.2.2.2.2.2.2.2.2.2.2.2.2.2.1, z_29.2.2.2.2.2.2.2.2.2.2.2.2.2.2.2.2.2.2.2.2.1, z_29.2.2.2.2.2.2.2.2.2.2.2.2.2.2.2.2.2.2.2.2.2, fRf)))))

set_option maxHeartbeats 4000000 in
set_option maxRecDepth 100000 in
theorem c_X8_when (l : Launch) (G : va_G) (aM aNw aVs aSg aWs aRf rM_kept rM_isKept : Nat) (cNw cVs cSg cWs cRf : ClassId) (p1 : Int32) (p2 : Int32) (p3 : Int32) (p4 : Int32) (M_at : Int32) (M_fault : Int32) (M_valueMany : Int32) (M_signMany : Int32) (M_tells : Int64) (M_way : Int32) (M_wish : Int32) (M_moreTick : Int64) (M_moreForce : Int64) (M_runTurns : Int32) (M_runFirst : Int64) (M_runLast : Int64) (M_peak : Int64) (M_beside : Int64) (M_besideAt : Int32) (fNw : Nat → Int64) (fVs : Nat → Int64) (fSg : Nat → Int32) (fWs : Nat → Int64) (fRf : Nat → Int32) (wn : WN_ fNw) (w0 : M_way = 0) (tb : (fNw 6).toInt ≤ 1000000000) (mt : M_moreTick = (-1)) : kCi l yX8_when (Cond.code yX8_when cX8_when 10 (some .int) :: wsL_law) ({ frames := 8, cells := 0, slots := 0, locals := 195 }) G [(cNw, .long), (cVs, .long), (cSg, .int), (cWs, .long), (cRf, .int)] [.ref aM, .int p1, .int p2, .int p3, .int p4] [(aM, .inr (8, [.ref aNw, .ref rM_kept, .ref rM_isKept, .ref aRf, .int M_at, .int M_fault, .ref aVs, .int M_valueMany, .ref aSg, .int M_signMany, .long M_tells, .int M_way, .int M_wish, .long M_moreTick, .long M_moreForce, .int M_runTurns, .long M_runFirst, .long M_runLast, .ref aWs, .long M_peak, .long M_beside, .int M_besideAt])), (aNw, .inl (cNw, 139, .inr (.inl fNw))), (aVs, .inl (cVs, 64, .inr (.inl fVs))), (aSg, .inl (cSg, 128, .inl fSg)), (aWs, .inl (cWs, 53, .inr (.inl fWs))), (aRf, .inl (cRf, 3, .inl fRf))] (fun (r : Int32) (u : Int32 × Int32 × Int32 × Int32 × Int64 × Int32 × Int64 × Int64 × Int32 × Int64 × Int64 × Int64 × Int64 × Int32 × (Nat → Int64) × (Nat → Int64) × (Nat → Int32) × (Nat → Int64) × (Nat → Int32)) => r = (fX8_when p1 p2 p3 p4 M_at M_fault M_valueMany M_signMany M_tells M_way M_wish M_moreTick M_moreForce M_runTurns M_runFirst M_runLast M_peak M_beside M_besideAt fNw fVs fSg fWs fRf).1 ∧ u = (fX8_when p1 p2 p3 p4 M_at M_fault M_valueMany M_signMany M_tells M_way M_wish M_moreTick M_moreForce M_runTurns M_runFirst M_runLast M_peak M_beside M_besideAt fNw fVs fSg fWs fRf).2 ∧ (u.2.2.2.2.2.2.2.2.2.2.2.2.2.2.1 = fNw) ∧ ((u.2.2.2.2.2.1 : Int32) = 0) ∧ ((u.2.2.2.2.2.2.1 : Int64) = (-1))) (fun (u : Int32 × Int32 × Int32 × Int32 × Int64 × Int32 × Int64 × Int64 × Int32 × Int64 × Int64 × Int64 × Int64 × Int32 × (Nat → Int64) × (Nat → Int64) × (Nat → Int32) × (Nat → Int64) × (Nat → Int32)) => [(aM, .inr (8, [.ref aNw, .ref rM_kept, .ref rM_isKept, .ref aRf, .int u.1, .int u.2.1, .ref aVs, .int u.2.2.1, .ref aSg, .int u.2.2.2.1, .long u.2.2.2.2.1, .int u.2.2.2.2.2.1, .int M_wish, .long u.2.2.2.2.2.2.1, .long u.2.2.2.2.2.2.2.1, .int u.2.2.2.2.2.2.2.2.1, .long u.2.2.2.2.2.2.2.2.2.1, .long u.2.2.2.2.2.2.2.2.2.2.1, .ref aWs, .long u.2.2.2.2.2.2.2.2.2.2.2.1, .long u.2.2.2.2.2.2.2.2.2.2.2.2.1, .int u.2.2.2.2.2.2.2.2.2.2.2.2.2.1])), (aNw, .inl (cNw, 139, .inr (.inl u.2.2.2.2.2.2.2.2.2.2.2.2.2.2.1))), (aVs, .inl (cVs, 64, .inr (.inl u.2.2.2.2.2.2.2.2.2.2.2.2.2.2.2.1))), (aSg, .inl (cSg, 128, .inl u.2.2.2.2.2.2.2.2.2.2.2.2.2.2.2.2.1)), (aWs, .inl (cWs, 53, .inr (.inl u.2.2.2.2.2.2.2.2.2.2.2.2.2.2.2.2.2.1))), (aRf, .inl (cRf, 3, .inl u.2.2.2.2.2.2.2.2.2.2.2.2.2.2.2.2.2.2))]) := by
  intro sz
  refine Met.ofW (cc := cX8_when) (maxL := 10) (ret := (some .int)) (by decide) rfl ?_
  intro p e s m args below meth c s₁ B hml hv
  obtain ⟨rfl, hv⟩ := hv
  obtain ⟨rfl, hK, hq, hA⟩ := kk_begin hv
  have hx := B.exec
  have hb := B.bytes
  have hr := B.returns
  have hts := atoms_spec (ws := (Cond.code yX8_when cX8_when 10 (some .int) :: wsL_law)) B.pre
  have hown : s.vm.findClass RX8 = some m.cls := findClass_of_methodNamed B.named
  have hlocks := B.notSynchronized
  have hsb : ∀ w ∈ wsL_law, w ∈ (Cond.code yX8_when cX8_when 10 (some .int) :: wsL_law) := fun _ h => List.mem_cons_of_mem _ h
  generalize va_A [(aM, .inr (8, [.ref aNw, .ref rM_kept, .ref rM_isKept, .ref aRf, .int M_at, .int M_fault, .ref aVs, .int M_valueMany, .ref aSg, .int M_signMany, .long M_tells, .int M_way, .int M_wish, .long M_moreTick, .long M_moreForce, .int M_runTurns, .long M_runFirst, .long M_runLast, .ref aWs, .long M_peak, .long M_beside, .int M_besideAt])), (aNw, .inl (cNw, 139, .inr (.inl fNw))), (aVs, .inl (cVs, 64, .inr (.inl fVs))), (aSg, .inl (cSg, 128, .inl fSg)), (aWs, .inl (cWs, 53, .inr (.inl fWs))), (aRf, .inl (cRf, 3, .inl fRf))] s.heap.size = A at hq hA ⊢
  have lk0_ := hts _ (hsb _ wd_564)
  have hl := lv_entry ([.ref aM, .int p1, .int p2, .int p3, .int p4]) (n := 10) (Nat.le_of_ble_eq_true rfl)
  rw [lg_entry_eq]
  generalize (lg_sl ([.ref aM, .int p1, .int p2, .int p3, .int p4]) ++ List.replicate (10 - (lg_sl ([.ref aM, .int p1, .int p2, .int p3, .int p4])).length) Slot.unset).toArray = ls at hl ⊢
  have hl : lv_has ls 10 [(0, .ref aM), (1, .int p1), (2, .int p2), (3, .int p3), (4, .int p4)] := hl
  refine lv_iload_n hx hb dX8_when_0 rfl (lv_at hl 1 rfl) ?_
  refine kk_Si (As := [.int p1]) (rest := []) (wr := [(aM, .inr (8, [.ref aNw, .ref rM_kept, .ref rM_isKept, .ref aRf, .int M_at, .int M_fault, .ref aVs, .int M_valueMany, .ref aSg, .int M_signMany, .long M_tells, .int M_way, .int M_wish, .long M_moreTick, .long M_moreForce, .int M_runTurns, .long M_runFirst, .long M_runLast, .ref aWs, .long M_peak, .long M_beside, .int M_besideAt])), (aNw, .inl (cNw, 139, .inr (.inl fNw))), (aVs, .inl (cVs, 64, .inr (.inl fVs))), (aSg, .inl (cSg, 128, .inl fSg)), (aWs, .inl (cWs, 53, .inr (.inl fWs))), (aRf, .inl (cRf, 3, .inl fRf))]) ⟨hx, hb, hml, hown, hts⟩ (c_X8_isForce l G p1) (kk_cwS 1 hts hsb wd_346 wd_347 wd_5 wd_348 rfl rfl hd_X8_isForce ⟨Nat.le_of_ble_eq_true rfl, Nat.le_of_ble_eq_true rfl⟩) hA hK hq [] [0, 1, 2, 3, 4, 5] [] rfl rfl rfl (by decide) (by decide) (by decide) rfl hl.1 rfl (Nat.le_of_ble_eq_true rfl) dX8_when_1 ⟨Nat.zero_le _, Nat.zero_le _⟩ (fun r_2 u_1 H locs h_3 hq => ?_)
  obtain ⟨er_2, zr_2⟩ := h_3
  have hq : kAt G A s [(aM, .inr (8, [.ref aNw, .ref rM_kept, .ref rM_isKept, .ref aRf, .int M_at, .int M_fault, .ref aVs, .int M_valueMany, .ref aSg, .int M_signMany, .long M_tells, .int M_way, .int M_wish, .long M_moreTick, .long M_moreForce, .int M_runTurns, .long M_runFirst, .long M_runLast, .ref aWs, .long M_peak, .long M_beside, .int M_besideAt])), (aNw, .inl (cNw, 139, .inr (.inl fNw))), (aVs, .inl (cVs, 64, .inr (.inl fVs))), (aSg, .inl (cSg, 128, .inl fSg)), (aWs, .inl (cWs, 53, .inr (.inl fWs))), (aRf, .inl (cRf, 3, .inl fRf))] H locs := hq
  refine lv_if_eq (tgt := 37) hx hb dX8_when_4 (by decide) (fun c_4 => ?_) (fun c_4 => ?_)
  · skip
    refine lv_aload_n hx hb dX8_when_37 rfl (lv_at hl 0 rfl) ?_
    refine lv_bipush (v := -2) hx hb dX8_when_38 (by decide) ?_
    refine kk_Vi (As := [.int (-2)]) (rest := []) (wr := [(aNw, .inl (cNw, 139, .inr (.inl fNw))), (aVs, .inl (cVs, 64, .inr (.inl fVs))), (aSg, .inl (cSg, 128, .inl fSg)), (aWs, .inl (cWs, 53, .inr (.inl fWs)))]) ⟨hx, hb, hml, hown, hts⟩ (c_X8_bad l G aM aRf aNw rM_kept rM_isKept aVs aSg aWs cRf (-2) M_at M_fault M_valueMany M_signMany M_tells M_way M_wish M_moreTick M_moreForce M_runTurns M_runFirst M_runLast M_peak M_beside M_besideAt fRf) (kk_cwV 1 hts hsb wd_159 wd_160 wd_161 wd_5 wd_162 rfl rfl hd_X8_bad ⟨Nat.le_of_ble_eq_true rfl, Nat.le_of_ble_eq_true rfl⟩) hA hK hq [0, 5] [1, 2, 3, 4] [4] rfl rfl rfl (by decide) (by decide) (by decide) 0 8 rfl rfl rfl rfl hl.1 rfl (Nat.le_of_ble_eq_true rfl) dX8_when_40 ⟨Nat.zero_le _, Nat.zero_le _⟩ (fun r_6 u_5 H locs h_7 hq => ?_)
    obtain ⟨er_6, eu_5⟩ := h_7
    have hq : kAt G A s [(aNw, .inl (cNw, 139, .inr (.inl fNw))), (aVs, .inl (cVs, 64, .inr (.inl fVs))), (aSg, .inl (cSg, 128, .inl fSg)), (aWs, .inl (cWs, 53, .inr (.inl fWs))), (aM, .inr (8, [.ref aNw, .ref rM_kept, .ref rM_isKept, .ref aRf, .int M_at, .int M_fault, .ref aVs, .int M_valueMany, .ref aSg, .int M_signMany, .long M_tells, .int M_way, .int M_wish, .long M_moreTick, .long M_moreForce, .int M_runTurns, .long M_runFirst, .long M_runLast, .ref aWs, .long M_peak, .long M_beside, .int M_besideAt])), (aRf, .inl (cRf, 3, .inl u_5))] H locs := hq
    have hf : ((r_6, M_at, M_fault, M_valueMany, M_signMany, M_tells, M_way, M_moreTick, M_moreForce, M_runTurns, M_runFirst, M_runLast, M_peak, M_beside, M_besideAt, fNw, fVs, fSg, fWs, u_5) : Int32 × Int32 × Int32 × Int32 × Int32 × Int64 × Int32 × Int64 × Int64 × Int32 × Int64 × Int64 × Int64 × Int64 × Int32 × (Nat → Int64) × (Nat → Int64) × (Nat → Int32) × (Nat → Int64) × (Nat → Int32)) = fX8_when p1 p2 p3 p4 M_at M_fault M_valueMany M_signMany M_tells M_way M_wish M_moreTick M_moreForce M_runTurns M_runFirst M_runLast M_peak M_beside M_besideAt fNw fVs fSg fWs fRf := by
      exact ((congrArg (fun (r_2 : Int32) => ((if r_2 = 0 then (
    let r_6 : Int32 := (fX8_bad (-2) fRf).1
    let u_5 : Nat → Int32 := (fX8_bad (-2) fRf).2
    (r_6, M_at, M_fault, M_valueMany, M_signMany, M_tells, M_way, M_moreTick, M_moreForce, M_runTurns, M_runFirst, M_runLast, M_peak, M_beside, M_besideAt, fNw, fVs, fSg, fWs, u_5))
  else (
    let r_9 : Int32 := fX8_isRun p2
    if r_9 = 0 then (
      let r_13 : Int32 := (fX8_bad (-2) fRf).1
      let u_12 : Nat → Int32 := (fX8_bad (-2) fRf).2
      (r_13, M_at, M_fault, M_valueMany, M_signMany, M_tells, M_way, M_moreTick, M_moreForce, M_runTurns, M_runFirst, M_runLast, M_peak, M_beside, M_besideAt, fNw, fVs, fSg, fWs, u_12))
    else (
      let r_16 : Int32 := fX8_in p3.toInt64 1 40
      if r_16 = 0 then (
        let r_20 : Int32 := (fX8_bad (-2) fRf).1
        let u_19 : Nat → Int32 := (fX8_bad (-2) fRf).2
        (r_20, M_at, M_fault, M_valueMany, M_signMany, M_tells, M_way, M_moreTick, M_moreForce, M_runTurns, M_runFirst, M_runLast, M_peak, M_beside, M_besideAt, fNw, fVs, fSg, fWs, u_19))
      else (
        let r_23 : Int32 := fX8_in p4.toInt64 0 1
        if r_23 = 0 then (
          let r_47 : Int32 := (fX8_bad (-2) fRf).1
          let u_46 : Nat → Int32 := (fX8_bad (-2) fRf).2
          (r_47, M_at, M_fault, M_valueMany, M_signMany, M_tells, M_way, M_moreTick, M_moreForce, M_runTurns, M_runFirst, M_runLast, M_peak, M_beside, M_besideAt, fNw, fVs, fSg, fWs, u_46))
        else (
          let z_29 : Int32 × Int32 × Int32 × Int32 × Int32 × Int32 × Int32 × Int32 × Int64 × Int32 × Int64 × Int64 × Int64 × Int64 × Int32 × Int32 × Int64 × Int64 × (Nat → Int64) × (Nat → Int64) × (Nat → Int32) × (Nat → Int64) := lpX8_when_56 p1 p2 p3 M_wish (41) 0 0 0 0 M_at M_fault M_valueMany M_signMany M_tells M_runTurns M_runFirst M_runLast M_peak M_beside M_besideAt M_way M_moreTick M_moreForce fNw fVs fSg fWs
          let z0_31 : Int32 := if p4 = 0 then z_29.2.1 else z_29.2.2.2.1
          (z0_31, z_29.2.2.2.2.1, z_29.2.2.2.2.2.1, z_29.2.2.2.2.2.2.1, z_29.2.2.2.2.2.2.2.1, z_29.2.2.2.2.2.2.2.2.1, z_29.2.2.2.2.2.2.2.2.2.2.2.2.2.2.2.1, z_29.2.2.2.2.2.2.2.2.2.2.2.2.2.2.2.2.1, z_29.2.2.2.2.2.2.2.2.2.2.2.2.2.2.2.2.2.1, z_29.2.2.2.2.2.2.2.2.2.1, z_29.2.2.2.2.2.2.2.2.2.2.1, z_29.2.2.2.2.2.2.2.2.2.2.2.1, z_29.2.2.2.2.2.2.2.2.2.2.2.2.1, z_29.2.2.2.2.2.2.2.2.2.2.2.2.2.1, z_29.2.2.2.2.2.2.2.2.2.2.2.2.2.2.1, z_29.2.2.2.2.2.2.2.2.2.2.2.2.2.2.2.2.2.2.1, z_29.2.2.2.2.2.2.2.2.2.2.2.2.2.2.2.2.2.2.2.1, z_29.2.2.2.2.2.2.2.2.2.2.2.2.2.2.2.2.2.2.2.2.1, z_29.2.2.2.2.2.2.2.2.2.2.2.2.2.2.2.2.2.2.2.2.2, fRf)))))) : Int32 × Int32 × Int32 × Int32 × Int32 × Int64 × Int32 × Int64 × Int64 × Int32 × Int64 × Int64 × Int64 × Int64 × Int32 × (Nat → Int64) × (Nat → Int64) × (Nat → Int32) × (Nat → Int64) × (Nat → Int32))) er_2.symm).trans ((if_pos c_4).trans ((congrArg (fun (r_6 : Int32) => ((let u_5 : Nat → Int32 := (fX8_bad (-2) fRf).2
  (r_6, M_at, M_fault, M_valueMany, M_signMany, M_tells, M_way, M_moreTick, M_moreForce, M_runTurns, M_runFirst, M_runLast, M_peak, M_beside, M_besideAt, fNw, fVs, fSg, fWs, u_5)) : Int32 × Int32 × Int32 × Int32 × Int32 × Int64 × Int32 × Int64 × Int64 × Int32 × Int64 × Int64 × Int64 × Int64 × Int32 × (Nat → Int64) × (Nat → Int64) × (Nat → Int32) × (Nat → Int64) × (Nat → Int32))) er_6.symm).trans ((congrArg (fun (u_5 : Nat → Int32) => (((r_6, M_at, M_fault, M_valueMany, M_signMany, M_tells, M_way, M_moreTick, M_moreForce, M_runTurns, M_runFirst, M_runLast, M_peak, M_beside, M_besideAt, fNw, fVs, fSg, fWs, u_5)) : Int32 × Int32 × Int32 × Int32 × Int32 × Int64 × Int32 × Int64 × Int64 × Int32 × Int64 × Int64 × Int64 × Int64 × Int32 × (Nat → Int64) × (Nat → Int64) × (Nat → Int32) × (Nat → Int64) × (Nat → Int32))) eu_5.symm))))).symm
    have hf1 := congrArg Prod.fst hf
    have hf2 := congrArg Prod.snd hf
    have en_0 : fNw = fNw := by first | assumption | rfl
    have en_1 : (M_way : Int32) = 0 := by first | assumption | rfl
    have en_2 : (M_moreTick : Int64) = (-1) := by first | assumption | rfl
    exact kk_ei hx hb hr hlocks hK hq [4, 0, 1, 2, 3, 5] (M_at, M_fault, M_valueMany, M_signMany, M_tells, M_way, M_moreTick, M_moreForce, M_runTurns, M_runFirst, M_runLast, M_peak, M_beside, M_besideAt, fNw, fVs, fSg, fWs, u_5) rfl (by decide) dX8_when_43 ⟨hf1, hf2, en_0, en_1, en_2⟩
  · skip
    refine lv_iload_n hx hb dX8_when_7 rfl (lv_at hl 2 rfl) ?_
    refine kk_Si (As := [.int p2]) (rest := []) (wr := [(aM, .inr (8, [.ref aNw, .ref rM_kept, .ref rM_isKept, .ref aRf, .int M_at, .int M_fault, .ref aVs, .int M_valueMany, .ref aSg, .int M_signMany, .long M_tells, .int M_way, .int M_wish, .long M_moreTick, .long M_moreForce, .int M_runTurns, .long M_runFirst, .long M_runLast, .ref aWs, .long M_peak, .long M_beside, .int M_besideAt])), (aNw, .inl (cNw, 139, .inr (.inl fNw))), (aVs, .inl (cVs, 64, .inr (.inl fVs))), (aSg, .inl (cSg, 128, .inl fSg)), (aWs, .inl (cWs, 53, .inr (.inl fWs))), (aRf, .inl (cRf, 3, .inl fRf))]) ⟨hx, hb, hml, hown, hts⟩ (c_X8_isRun l G p2) (kk_cwS 1 hts hsb wd_536 wd_537 wd_5 wd_538 rfl rfl hd_X8_isRun ⟨Nat.le_of_ble_eq_true rfl, Nat.le_of_ble_eq_true rfl⟩) hA hK hq [] [0, 1, 2, 3, 4, 5] [] rfl rfl rfl (by decide) (by decide) (by decide) rfl hl.1 rfl (Nat.le_of_ble_eq_true rfl) dX8_when_8 ⟨Nat.zero_le _, Nat.zero_le _⟩ (fun r_9 u_8 H locs h_10 hq => ?_)
    obtain ⟨er_9, zr_9⟩ := h_10
    have hq : kAt G A s [(aM, .inr (8, [.ref aNw, .ref rM_kept, .ref rM_isKept, .ref aRf, .int M_at, .int M_fault, .ref aVs, .int M_valueMany, .ref aSg, .int M_signMany, .long M_tells, .int M_way, .int M_wish, .long M_moreTick, .long M_moreForce, .int M_runTurns, .long M_runFirst, .long M_runLast, .ref aWs, .long M_peak, .long M_beside, .int M_besideAt])), (aNw, .inl (cNw, 139, .inr (.inl fNw))), (aVs, .inl (cVs, 64, .inr (.inl fVs))), (aSg, .inl (cSg, 128, .inl fSg)), (aWs, .inl (cWs, 53, .inr (.inl fWs))), (aRf, .inl (cRf, 3, .inl fRf))] H locs := hq
    have hrun := er_9
    refine lv_if_eq (tgt := 37) hx hb dX8_when_11 (by decide) (fun c_11 => ?_) (fun c_11 => ?_)
    · skip
      refine lv_aload_n hx hb dX8_when_37 rfl (lv_at hl 0 rfl) ?_
      refine lv_bipush (v := -2) hx hb dX8_when_38 (by decide) ?_
      refine kk_Vi (As := [.int (-2)]) (rest := []) (wr := [(aNw, .inl (cNw, 139, .inr (.inl fNw))), (aVs, .inl (cVs, 64, .inr (.inl fVs))), (aSg, .inl (cSg, 128, .inl fSg)), (aWs, .inl (cWs, 53, .inr (.inl fWs)))]) ⟨hx, hb, hml, hown, hts⟩ (c_X8_bad l G aM aRf aNw rM_kept rM_isKept aVs aSg aWs cRf (-2) M_at M_fault M_valueMany M_signMany M_tells M_way M_wish M_moreTick M_moreForce M_runTurns M_runFirst M_runLast M_peak M_beside M_besideAt fRf) (kk_cwV 1 hts hsb wd_159 wd_160 wd_161 wd_5 wd_162 rfl rfl hd_X8_bad ⟨Nat.le_of_ble_eq_true rfl, Nat.le_of_ble_eq_true rfl⟩) hA hK hq [0, 5] [1, 2, 3, 4] [4] rfl rfl rfl (by decide) (by decide) (by decide) 0 8 rfl rfl rfl rfl hl.1 rfl (Nat.le_of_ble_eq_true rfl) dX8_when_40 ⟨Nat.zero_le _, Nat.zero_le _⟩ (fun r_13 u_12 H locs h_14 hq => ?_)
      obtain ⟨er_13, eu_12⟩ := h_14
      have hq : kAt G A s [(aNw, .inl (cNw, 139, .inr (.inl fNw))), (aVs, .inl (cVs, 64, .inr (.inl fVs))), (aSg, .inl (cSg, 128, .inl fSg)), (aWs, .inl (cWs, 53, .inr (.inl fWs))), (aM, .inr (8, [.ref aNw, .ref rM_kept, .ref rM_isKept, .ref aRf, .int M_at, .int M_fault, .ref aVs, .int M_valueMany, .ref aSg, .int M_signMany, .long M_tells, .int M_way, .int M_wish, .long M_moreTick, .long M_moreForce, .int M_runTurns, .long M_runFirst, .long M_runLast, .ref aWs, .long M_peak, .long M_beside, .int M_besideAt])), (aRf, .inl (cRf, 3, .inl u_12))] H locs := hq
      have hf : ((r_13, M_at, M_fault, M_valueMany, M_signMany, M_tells, M_way, M_moreTick, M_moreForce, M_runTurns, M_runFirst, M_runLast, M_peak, M_beside, M_besideAt, fNw, fVs, fSg, fWs, u_12) : Int32 × Int32 × Int32 × Int32 × Int32 × Int64 × Int32 × Int64 × Int64 × Int32 × Int64 × Int64 × Int64 × Int64 × Int32 × (Nat → Int64) × (Nat → Int64) × (Nat → Int32) × (Nat → Int64) × (Nat → Int32)) = fX8_when p1 p2 p3 p4 M_at M_fault M_valueMany M_signMany M_tells M_way M_wish M_moreTick M_moreForce M_runTurns M_runFirst M_runLast M_peak M_beside M_besideAt fNw fVs fSg fWs fRf := by
        exact ((congrArg (fun (r_2 : Int32) => ((if r_2 = 0 then (
    let r_6 : Int32 := (fX8_bad (-2) fRf).1
    let u_5 : Nat → Int32 := (fX8_bad (-2) fRf).2
    (r_6, M_at, M_fault, M_valueMany, M_signMany, M_tells, M_way, M_moreTick, M_moreForce, M_runTurns, M_runFirst, M_runLast, M_peak, M_beside, M_besideAt, fNw, fVs, fSg, fWs, u_5))
  else (
    let r_9 : Int32 := fX8_isRun p2
    if r_9 = 0 then (
      let r_13 : Int32 := (fX8_bad (-2) fRf).1
      let u_12 : Nat → Int32 := (fX8_bad (-2) fRf).2
      (r_13, M_at, M_fault, M_valueMany, M_signMany, M_tells, M_way, M_moreTick, M_moreForce, M_runTurns, M_runFirst, M_runLast, M_peak, M_beside, M_besideAt, fNw, fVs, fSg, fWs, u_12))
    else (
      let r_16 : Int32 := fX8_in p3.toInt64 1 40
      if r_16 = 0 then (
        let r_20 : Int32 := (fX8_bad (-2) fRf).1
        let u_19 : Nat → Int32 := (fX8_bad (-2) fRf).2
        (r_20, M_at, M_fault, M_valueMany, M_signMany, M_tells, M_way, M_moreTick, M_moreForce, M_runTurns, M_runFirst, M_runLast, M_peak, M_beside, M_besideAt, fNw, fVs, fSg, fWs, u_19))
      else (
        let r_23 : Int32 := fX8_in p4.toInt64 0 1
        if r_23 = 0 then (
          let r_47 : Int32 := (fX8_bad (-2) fRf).1
          let u_46 : Nat → Int32 := (fX8_bad (-2) fRf).2
          (r_47, M_at, M_fault, M_valueMany, M_signMany, M_tells, M_way, M_moreTick, M_moreForce, M_runTurns, M_runFirst, M_runLast, M_peak, M_beside, M_besideAt, fNw, fVs, fSg, fWs, u_46))
        else (
          let z_29 : Int32 × Int32 × Int32 × Int32 × Int32 × Int32 × Int32 × Int32 × Int64 × Int32 × Int64 × Int64 × Int64 × Int64 × Int32 × Int32 × Int64 × Int64 × (Nat → Int64) × (Nat → Int64) × (Nat → Int32) × (Nat → Int64) := lpX8_when_56 p1 p2 p3 M_wish (41) 0 0 0 0 M_at M_fault M_valueMany M_signMany M_tells M_runTurns M_runFirst M_runLast M_peak M_beside M_besideAt M_way M_moreTick M_moreForce fNw fVs fSg fWs
          let z0_31 : Int32 := if p4 = 0 then z_29.2.1 else z_29.2.2.2.1
          (z0_31, z_29.2.2.2.2.1, z_29.2.2.2.2.2.1, z_29.2.2.2.2.2.2.1, z_29.2.2.2.2.2.2.2.1, z_29.2.2.2.2.2.2.2.2.1, z_29.2.2.2.2.2.2.2.2.2.2.2.2.2.2.2.1, z_29.2.2.2.2.2.2.2.2.2.2.2.2.2.2.2.2.1, z_29.2.2.2.2.2.2.2.2.2.2.2.2.2.2.2.2.2.1, z_29.2.2.2.2.2.2.2.2.2.1, z_29.2.2.2.2.2.2.2.2.2.2.1, z_29.2.2.2.2.2.2.2.2.2.2.2.1, z_29.2.2.2.2.2.2.2.2.2.2.2.2.1, z_29.2.2.2.2.2.2.2.2.2.2.2.2.2.1, z_29.2.2.2.2.2.2.2.2.2.2.2.2.2.2.1, z_29.2.2.2.2.2.2.2.2.2.2.2.2.2.2.2.2.2.2.1, z_29.2.2.2.2.2.2.2.2.2.2.2.2.2.2.2.2.2.2.2.1, z_29.2.2.2.2.2.2.2.2.2.2.2.2.2.2.2.2.2.2.2.2.1, z_29.2.2.2.2.2.2.2.2.2.2.2.2.2.2.2.2.2.2.2.2.2, fRf)))))) : Int32 × Int32 × Int32 × Int32 × Int32 × Int64 × Int32 × Int64 × Int64 × Int32 × Int64 × Int64 × Int64 × Int64 × Int32 × (Nat → Int64) × (Nat → Int64) × (Nat → Int32) × (Nat → Int64) × (Nat → Int32))) er_2.symm).trans ((if_neg c_4).trans ((congrArg (fun (r_9 : Int32) => ((if r_9 = 0 then (
    let r_13 : Int32 := (fX8_bad (-2) fRf).1
    let u_12 : Nat → Int32 := (fX8_bad (-2) fRf).2
    (r_13, M_at, M_fault, M_valueMany, M_signMany, M_tells, M_way, M_moreTick, M_moreForce, M_runTurns, M_runFirst, M_runLast, M_peak, M_beside, M_besideAt, fNw, fVs, fSg, fWs, u_12))
  else (
    let r_16 : Int32 := fX8_in p3.toInt64 1 40
    if r_16 = 0 then (
      let r_20 : Int32 := (fX8_bad (-2) fRf).1
      let u_19 : Nat → Int32 := (fX8_bad (-2) fRf).2
      (r_20, M_at, M_fault, M_valueMany, M_signMany, M_tells, M_way, M_moreTick, M_moreForce, M_runTurns, M_runFirst, M_runLast, M_peak, M_beside, M_besideAt, fNw, fVs, fSg, fWs, u_19))
    else (
      let r_23 : Int32 := fX8_in p4.toInt64 0 1
      if r_23 = 0 then (
        let r_47 : Int32 := (fX8_bad (-2) fRf).1
        let u_46 : Nat → Int32 := (fX8_bad (-2) fRf).2
        (r_47, M_at, M_fault, M_valueMany, M_signMany, M_tells, M_way, M_moreTick, M_moreForce, M_runTurns, M_runFirst, M_runLast, M_peak, M_beside, M_besideAt, fNw, fVs, fSg, fWs, u_46))
      else (
        let z_29 : Int32 × Int32 × Int32 × Int32 × Int32 × Int32 × Int32 × Int32 × Int64 × Int32 × Int64 × Int64 × Int64 × Int64 × Int32 × Int32 × Int64 × Int64 × (Nat → Int64) × (Nat → Int64) × (Nat → Int32) × (Nat → Int64) := lpX8_when_56 p1 p2 p3 M_wish (41) 0 0 0 0 M_at M_fault M_valueMany M_signMany M_tells M_runTurns M_runFirst M_runLast M_peak M_beside M_besideAt M_way M_moreTick M_moreForce fNw fVs fSg fWs
        let z0_31 : Int32 := if p4 = 0 then z_29.2.1 else z_29.2.2.2.1
        (z0_31, z_29.2.2.2.2.1, z_29.2.2.2.2.2.1, z_29.2.2.2.2.2.2.1, z_29.2.2.2.2.2.2.2.1, z_29.2.2.2.2.2.2.2.2.1, z_29.2.2.2.2.2.2.2.2.2.2.2.2.2.2.2.1, z_29.2.2.2.2.2.2.2.2.2.2.2.2.2.2.2.2.1, z_29.2.2.2.2.2.2.2.2.2.2.2.2.2.2.2.2.2.1, z_29.2.2.2.2.2.2.2.2.2.1, z_29.2.2.2.2.2.2.2.2.2.2.1, z_29.2.2.2.2.2.2.2.2.2.2.2.1, z_29.2.2.2.2.2.2.2.2.2.2.2.2.1, z_29.2.2.2.2.2.2.2.2.2.2.2.2.2.1, z_29.2.2.2.2.2.2.2.2.2.2.2.2.2.2.1, z_29.2.2.2.2.2.2.2.2.2.2.2.2.2.2.2.2.2.2.1, z_29.2.2.2.2.2.2.2.2.2.2.2.2.2.2.2.2.2.2.2.1, z_29.2.2.2.2.2.2.2.2.2.2.2.2.2.2.2.2.2.2.2.2.1, z_29.2.2.2.2.2.2.2.2.2.2.2.2.2.2.2.2.2.2.2.2.2, fRf))))) : Int32 × Int32 × Int32 × Int32 × Int32 × Int64 × Int32 × Int64 × Int64 × Int32 × Int64 × Int64 × Int64 × Int64 × Int32 × (Nat → Int64) × (Nat → Int64) × (Nat → Int32) × (Nat → Int64) × (Nat → Int32))) er_9.symm).trans ((if_pos c_11).trans ((congrArg (fun (r_13 : Int32) => ((let u_12 : Nat → Int32 := (fX8_bad (-2) fRf).2
  (r_13, M_at, M_fault, M_valueMany, M_signMany, M_tells, M_way, M_moreTick, M_moreForce, M_runTurns, M_runFirst, M_runLast, M_peak, M_beside, M_besideAt, fNw, fVs, fSg, fWs, u_12)) : Int32 × Int32 × Int32 × Int32 × Int32 × Int64 × Int32 × Int64 × Int64 × Int32 × Int64 × Int64 × Int64 × Int64 × Int32 × (Nat → Int64) × (Nat → Int64) × (Nat → Int32) × (Nat → Int64) × (Nat → Int32))) er_13.symm).trans ((congrArg (fun (u_12 : Nat → Int32) => (((r_13, M_at, M_fault, M_valueMany, M_signMany, M_tells, M_way, M_moreTick, M_moreForce, M_runTurns, M_runFirst, M_runLast, M_peak, M_beside, M_besideAt, fNw, fVs, fSg, fWs, u_12)) : Int32 × Int32 × Int32 × Int32 × Int32 × Int64 × Int32 × Int64 × Int64 × Int32 × Int64 × Int64 × Int64 × Int64 × Int32 × (Nat → Int64) × (Nat → Int64) × (Nat → Int32) × (Nat → Int64) × (Nat → Int32))) eu_12.symm))))))).symm
      have hf1 := congrArg Prod.fst hf
      have hf2 := congrArg Prod.snd hf
      have en_0 : fNw = fNw := by first | assumption | rfl
      have en_1 : (M_way : Int32) = 0 := by first | assumption | rfl
      have en_2 : (M_moreTick : Int64) = (-1) := by first | assumption | rfl
      exact kk_ei hx hb hr hlocks hK hq [4, 0, 1, 2, 3, 5] (M_at, M_fault, M_valueMany, M_signMany, M_tells, M_way, M_moreTick, M_moreForce, M_runTurns, M_runFirst, M_runLast, M_peak, M_beside, M_besideAt, fNw, fVs, fSg, fWs, u_12) rfl (by decide) dX8_when_43 ⟨hf1, hf2, en_0, en_1, en_2⟩
    · skip
      have hn := run8_le (hrun ▸ c_11)
      refine lv_iload_n hx hb dX8_when_14 rfl (lv_at hl 3 rfl) ?_
      refine lv_i2l hx hb dX8_when_15 rfl ?_
      refine lv_lconst (v := 1) hx hb dX8_when_16 (by decide) ?_
      refine lv_ldc2 hx hb hown lk0_ dX8_when_17 ?_
      refine kk_Si (As := [.long p3.toInt64, .long 1, .long 40]) (rest := []) (wr := [(aM, .inr (8, [.ref aNw, .ref rM_kept, .ref rM_isKept, .ref aRf, .int M_at, .int M_fault, .ref aVs, .int M_valueMany, .ref aSg, .int M_signMany, .long M_tells, .int M_way, .int M_wish, .long M_moreTick, .long M_moreForce, .int M_runTurns, .long M_runFirst, .long M_runLast, .ref aWs, .long M_peak, .long M_beside, .int M_besideAt])), (aNw, .inl (cNw, 139, .inr (.inl fNw))), (aVs, .inl (cVs, 64, .inr (.inl fVs))), (aSg, .inl (cSg, 128, .inl fSg)), (aWs, .inl (cWs, 53, .inr (.inl fWs))), (aRf, .inl (cRf, 3, .inl fRf))]) ⟨hx, hb, hml, hown, hts⟩ (c_X8_in l G p3.toInt64 1 40) (kk_cwS 3 hts hsb wd_156 wd_157 wd_5 wd_158 rfl rfl hd_X8_in ⟨Nat.le_of_ble_eq_true rfl, Nat.le_of_ble_eq_true rfl⟩) hA hK hq [] [0, 1, 2, 3, 4, 5] [] rfl rfl rfl (by decide) (by decide) (by decide) rfl hl.1 rfl (Nat.le_of_ble_eq_true rfl) dX8_when_20 ⟨Nat.zero_le _, Nat.zero_le _⟩ (fun r_16 u_15 H locs h_17 hq => ?_)
      obtain ⟨er_16, zr_16⟩ := h_17
      have hq : kAt G A s [(aM, .inr (8, [.ref aNw, .ref rM_kept, .ref rM_isKept, .ref aRf, .int M_at, .int M_fault, .ref aVs, .int M_valueMany, .ref aSg, .int M_signMany, .long M_tells, .int M_way, .int M_wish, .long M_moreTick, .long M_moreForce, .int M_runTurns, .long M_runFirst, .long M_runLast, .ref aWs, .long M_peak, .long M_beside, .int M_besideAt])), (aNw, .inl (cNw, 139, .inr (.inl fNw))), (aVs, .inl (cVs, 64, .inr (.inl fVs))), (aSg, .inl (cSg, 128, .inl fSg)), (aWs, .inl (cWs, 53, .inr (.inl fWs))), (aRf, .inl (cRf, 3, .inl fRf))] H locs := hq
      have hrj := er_16
      refine lv_if_eq (tgt := 37) hx hb dX8_when_23 (by decide) (fun c_18 => ?_) (fun c_18 => ?_)
      · skip
        refine lv_aload_n hx hb dX8_when_37 rfl (lv_at hl 0 rfl) ?_
        refine lv_bipush (v := -2) hx hb dX8_when_38 (by decide) ?_
        refine kk_Vi (As := [.int (-2)]) (rest := []) (wr := [(aNw, .inl (cNw, 139, .inr (.inl fNw))), (aVs, .inl (cVs, 64, .inr (.inl fVs))), (aSg, .inl (cSg, 128, .inl fSg)), (aWs, .inl (cWs, 53, .inr (.inl fWs)))]) ⟨hx, hb, hml, hown, hts⟩ (c_X8_bad l G aM aRf aNw rM_kept rM_isKept aVs aSg aWs cRf (-2) M_at M_fault M_valueMany M_signMany M_tells M_way M_wish M_moreTick M_moreForce M_runTurns M_runFirst M_runLast M_peak M_beside M_besideAt fRf) (kk_cwV 1 hts hsb wd_159 wd_160 wd_161 wd_5 wd_162 rfl rfl hd_X8_bad ⟨Nat.le_of_ble_eq_true rfl, Nat.le_of_ble_eq_true rfl⟩) hA hK hq [0, 5] [1, 2, 3, 4] [4] rfl rfl rfl (by decide) (by decide) (by decide) 0 8 rfl rfl rfl rfl hl.1 rfl (Nat.le_of_ble_eq_true rfl) dX8_when_40 ⟨Nat.zero_le _, Nat.zero_le _⟩ (fun r_20 u_19 H locs h_21 hq => ?_)
        obtain ⟨er_20, eu_19⟩ := h_21
        have hq : kAt G A s [(aNw, .inl (cNw, 139, .inr (.inl fNw))), (aVs, .inl (cVs, 64, .inr (.inl fVs))), (aSg, .inl (cSg, 128, .inl fSg)), (aWs, .inl (cWs, 53, .inr (.inl fWs))), (aM, .inr (8, [.ref aNw, .ref rM_kept, .ref rM_isKept, .ref aRf, .int M_at, .int M_fault, .ref aVs, .int M_valueMany, .ref aSg, .int M_signMany, .long M_tells, .int M_way, .int M_wish, .long M_moreTick, .long M_moreForce, .int M_runTurns, .long M_runFirst, .long M_runLast, .ref aWs, .long M_peak, .long M_beside, .int M_besideAt])), (aRf, .inl (cRf, 3, .inl u_19))] H locs := hq
        have hf : ((r_20, M_at, M_fault, M_valueMany, M_signMany, M_tells, M_way, M_moreTick, M_moreForce, M_runTurns, M_runFirst, M_runLast, M_peak, M_beside, M_besideAt, fNw, fVs, fSg, fWs, u_19) : Int32 × Int32 × Int32 × Int32 × Int32 × Int64 × Int32 × Int64 × Int64 × Int32 × Int64 × Int64 × Int64 × Int64 × Int32 × (Nat → Int64) × (Nat → Int64) × (Nat → Int32) × (Nat → Int64) × (Nat → Int32)) = fX8_when p1 p2 p3 p4 M_at M_fault M_valueMany M_signMany M_tells M_way M_wish M_moreTick M_moreForce M_runTurns M_runFirst M_runLast M_peak M_beside M_besideAt fNw fVs fSg fWs fRf := by
          exact ((congrArg (fun (r_2 : Int32) => ((if r_2 = 0 then (
    let r_6 : Int32 := (fX8_bad (-2) fRf).1
    let u_5 : Nat → Int32 := (fX8_bad (-2) fRf).2
    (r_6, M_at, M_fault, M_valueMany, M_signMany, M_tells, M_way, M_moreTick, M_moreForce, M_runTurns, M_runFirst, M_runLast, M_peak, M_beside, M_besideAt, fNw, fVs, fSg, fWs, u_5))
  else (
    let r_9 : Int32 := fX8_isRun p2
    if r_9 = 0 then (
      let r_13 : Int32 := (fX8_bad (-2) fRf).1
      let u_12 : Nat → Int32 := (fX8_bad (-2) fRf).2
      (r_13, M_at, M_fault, M_valueMany, M_signMany, M_tells, M_way, M_moreTick, M_moreForce, M_runTurns, M_runFirst, M_runLast, M_peak, M_beside, M_besideAt, fNw, fVs, fSg, fWs, u_12))
    else (
      let r_16 : Int32 := fX8_in p3.toInt64 1 40
      if r_16 = 0 then (
        let r_20 : Int32 := (fX8_bad (-2) fRf).1
        let u_19 : Nat → Int32 := (fX8_bad (-2) fRf).2
        (r_20, M_at, M_fault, M_valueMany, M_signMany, M_tells, M_way, M_moreTick, M_moreForce, M_runTurns, M_runFirst, M_runLast, M_peak, M_beside, M_besideAt, fNw, fVs, fSg, fWs, u_19))
      else (
        let r_23 : Int32 := fX8_in p4.toInt64 0 1
        if r_23 = 0 then (
          let r_47 : Int32 := (fX8_bad (-2) fRf).1
          let u_46 : Nat → Int32 := (fX8_bad (-2) fRf).2
          (r_47, M_at, M_fault, M_valueMany, M_signMany, M_tells, M_way, M_moreTick, M_moreForce, M_runTurns, M_runFirst, M_runLast, M_peak, M_beside, M_besideAt, fNw, fVs, fSg, fWs, u_46))
        else (
          let z_29 : Int32 × Int32 × Int32 × Int32 × Int32 × Int32 × Int32 × Int32 × Int64 × Int32 × Int64 × Int64 × Int64 × Int64 × Int32 × Int32 × Int64 × Int64 × (Nat → Int64) × (Nat → Int64) × (Nat → Int32) × (Nat → Int64) := lpX8_when_56 p1 p2 p3 M_wish (41) 0 0 0 0 M_at M_fault M_valueMany M_signMany M_tells M_runTurns M_runFirst M_runLast M_peak M_beside M_besideAt M_way M_moreTick M_moreForce fNw fVs fSg fWs
          let z0_31 : Int32 := if p4 = 0 then z_29.2.1 else z_29.2.2.2.1
          (z0_31, z_29.2.2.2.2.1, z_29.2.2.2.2.2.1, z_29.2.2.2.2.2.2.1, z_29.2.2.2.2.2.2.2.1, z_29.2.2.2.2.2.2.2.2.1, z_29.2.2.2.2.2.2.2.2.2.2.2.2.2.2.2.1, z_29.2.2.2.2.2.2.2.2.2.2.2.2.2.2.2.2.1, z_29.2.2.2.2.2.2.2.2.2.2.2.2.2.2.2.2.2.1, z_29.2.2.2.2.2.2.2.2.2.1, z_29.2.2.2.2.2.2.2.2.2.2.1, z_29.2.2.2.2.2.2.2.2.2.2.2.1, z_29.2.2.2.2.2.2.2.2.2.2.2.2.1, z_29.2.2.2.2.2.2.2.2.2.2.2.2.2.1, z_29.2.2.2.2.2.2.2.2.2.2.2.2.2.2.1, z_29.2.2.2.2.2.2.2.2.2.2.2.2.2.2.2.2.2.2.1, z_29.2.2.2.2.2.2.2.2.2.2.2.2.2.2.2.2.2.2.2.1, z_29.2.2.2.2.2.2.2.2.2.2.2.2.2.2.2.2.2.2.2.2.1, z_29.2.2.2.2.2.2.2.2.2.2.2.2.2.2.2.2.2.2.2.2.2, fRf)))))) : Int32 × Int32 × Int32 × Int32 × Int32 × Int64 × Int32 × Int64 × Int64 × Int32 × Int64 × Int64 × Int64 × Int64 × Int32 × (Nat → Int64) × (Nat → Int64) × (Nat → Int32) × (Nat → Int64) × (Nat → Int32))) er_2.symm).trans ((if_neg c_4).trans ((congrArg (fun (r_9 : Int32) => ((if r_9 = 0 then (
    let r_13 : Int32 := (fX8_bad (-2) fRf).1
    let u_12 : Nat → Int32 := (fX8_bad (-2) fRf).2
    (r_13, M_at, M_fault, M_valueMany, M_signMany, M_tells, M_way, M_moreTick, M_moreForce, M_runTurns, M_runFirst, M_runLast, M_peak, M_beside, M_besideAt, fNw, fVs, fSg, fWs, u_12))
  else (
    let r_16 : Int32 := fX8_in p3.toInt64 1 40
    if r_16 = 0 then (
      let r_20 : Int32 := (fX8_bad (-2) fRf).1
      let u_19 : Nat → Int32 := (fX8_bad (-2) fRf).2
      (r_20, M_at, M_fault, M_valueMany, M_signMany, M_tells, M_way, M_moreTick, M_moreForce, M_runTurns, M_runFirst, M_runLast, M_peak, M_beside, M_besideAt, fNw, fVs, fSg, fWs, u_19))
    else (
      let r_23 : Int32 := fX8_in p4.toInt64 0 1
      if r_23 = 0 then (
        let r_47 : Int32 := (fX8_bad (-2) fRf).1
        let u_46 : Nat → Int32 := (fX8_bad (-2) fRf).2
        (r_47, M_at, M_fault, M_valueMany, M_signMany, M_tells, M_way, M_moreTick, M_moreForce, M_runTurns, M_runFirst, M_runLast, M_peak, M_beside, M_besideAt, fNw, fVs, fSg, fWs, u_46))
      else (
        let z_29 : Int32 × Int32 × Int32 × Int32 × Int32 × Int32 × Int32 × Int32 × Int64 × Int32 × Int64 × Int64 × Int64 × Int64 × Int32 × Int32 × Int64 × Int64 × (Nat → Int64) × (Nat → Int64) × (Nat → Int32) × (Nat → Int64) := lpX8_when_56 p1 p2 p3 M_wish (41) 0 0 0 0 M_at M_fault M_valueMany M_signMany M_tells M_runTurns M_runFirst M_runLast M_peak M_beside M_besideAt M_way M_moreTick M_moreForce fNw fVs fSg fWs
        let z0_31 : Int32 := if p4 = 0 then z_29.2.1 else z_29.2.2.2.1
        (z0_31, z_29.2.2.2.2.1, z_29.2.2.2.2.2.1, z_29.2.2.2.2.2.2.1, z_29.2.2.2.2.2.2.2.1, z_29.2.2.2.2.2.2.2.2.1, z_29.2.2.2.2.2.2.2.2.2.2.2.2.2.2.2.1, z_29.2.2.2.2.2.2.2.2.2.2.2.2.2.2.2.2.1, z_29.2.2.2.2.2.2.2.2.2.2.2.2.2.2.2.2.2.1, z_29.2.2.2.2.2.2.2.2.2.1, z_29.2.2.2.2.2.2.2.2.2.2.1, z_29.2.2.2.2.2.2.2.2.2.2.2.1, z_29.2.2.2.2.2.2.2.2.2.2.2.2.1, z_29.2.2.2.2.2.2.2.2.2.2.2.2.2.1, z_29.2.2.2.2.2.2.2.2.2.2.2.2.2.2.1, z_29.2.2.2.2.2.2.2.2.2.2.2.2.2.2.2.2.2.2.1, z_29.2.2.2.2.2.2.2.2.2.2.2.2.2.2.2.2.2.2.2.1, z_29.2.2.2.2.2.2.2.2.2.2.2.2.2.2.2.2.2.2.2.2.1, z_29.2.2.2.2.2.2.2.2.2.2.2.2.2.2.2.2.2.2.2.2.2, fRf))))) : Int32 × Int32 × Int32 × Int32 × Int32 × Int64 × Int32 × Int64 × Int64 × Int32 × Int64 × Int64 × Int64 × Int64 × Int32 × (Nat → Int64) × (Nat → Int64) × (Nat → Int32) × (Nat → Int64) × (Nat → Int32))) er_9.symm).trans ((if_neg c_11).trans ((congrArg (fun (r_16 : Int32) => ((if r_16 = 0 then (
    let r_20 : Int32 := (fX8_bad (-2) fRf).1
    let u_19 : Nat → Int32 := (fX8_bad (-2) fRf).2
    (r_20, M_at, M_fault, M_valueMany, M_signMany, M_tells, M_way, M_moreTick, M_moreForce, M_runTurns, M_runFirst, M_runLast, M_peak, M_beside, M_besideAt, fNw, fVs, fSg, fWs, u_19))
  else (
    let r_23 : Int32 := fX8_in p4.toInt64 0 1
    if r_23 = 0 then (
      let r_47 : Int32 := (fX8_bad (-2) fRf).1
      let u_46 : Nat → Int32 := (fX8_bad (-2) fRf).2
      (r_47, M_at, M_fault, M_valueMany, M_signMany, M_tells, M_way, M_moreTick, M_moreForce, M_runTurns, M_runFirst, M_runLast, M_peak, M_beside, M_besideAt, fNw, fVs, fSg, fWs, u_46))
    else (
      let z_29 : Int32 × Int32 × Int32 × Int32 × Int32 × Int32 × Int32 × Int32 × Int64 × Int32 × Int64 × Int64 × Int64 × Int64 × Int32 × Int32 × Int64 × Int64 × (Nat → Int64) × (Nat → Int64) × (Nat → Int32) × (Nat → Int64) := lpX8_when_56 p1 p2 p3 M_wish (41) 0 0 0 0 M_at M_fault M_valueMany M_signMany M_tells M_runTurns M_runFirst M_runLast M_peak M_beside M_besideAt M_way M_moreTick M_moreForce fNw fVs fSg fWs
      let z0_31 : Int32 := if p4 = 0 then z_29.2.1 else z_29.2.2.2.1
      (z0_31, z_29.2.2.2.2.1, z_29.2.2.2.2.2.1, z_29.2.2.2.2.2.2.1, z_29.2.2.2.2.2.2.2.1, z_29.2.2.2.2.2.2.2.2.1, z_29.2.2.2.2.2.2.2.2.2.2.2.2.2.2.2.1, z_29.2.2.2.2.2.2.2.2.2.2.2.2.2.2.2.2.1, z_29.2.2.2.2.2.2.2.2.2.2.2.2.2.2.2.2.2.1, z_29.2.2.2.2.2.2.2.2.2.1, z_29.2.2.2.2.2.2.2.2.2.2.1, z_29.2.2.2.2.2.2.2.2.2.2.2.1, z_29.2.2.2.2.2.2.2.2.2.2.2.2.1, z_29.2.2.2.2.2.2.2.2.2.2.2.2.2.1, z_29.2.2.2.2.2.2.2.2.2.2.2.2.2.2.1, z_29.2.2.2.2.2.2.2.2.2.2.2.2.2.2.2.2.2.2.1, z_29.2.2.2.2.2.2.2.2.2.2.2.2.2.2.2.2.2.2.2.1, z_29.2.2.2.2.2.2.2.2.2.2.2.2.2.2.2.2.2.2.2.2.1, z_29.2.2.2.2.2.2.2.2.2.2.2.2.2.2.2.2.2.2.2.2.2, fRf)))) : Int32 × Int32 × Int32 × Int32 × Int32 × Int64 × Int32 × Int64 × Int64 × Int32 × Int64 × Int64 × Int64 × Int64 × Int32 × (Nat → Int64) × (Nat → Int64) × (Nat → Int32) × (Nat → Int64) × (Nat → Int32))) er_16.symm).trans ((if_pos c_18).trans ((congrArg (fun (r_20 : Int32) => ((let u_19 : Nat → Int32 := (fX8_bad (-2) fRf).2
  (r_20, M_at, M_fault, M_valueMany, M_signMany, M_tells, M_way, M_moreTick, M_moreForce, M_runTurns, M_runFirst, M_runLast, M_peak, M_beside, M_besideAt, fNw, fVs, fSg, fWs, u_19)) : Int32 × Int32 × Int32 × Int32 × Int32 × Int64 × Int32 × Int64 × Int64 × Int32 × Int64 × Int64 × Int64 × Int64 × Int32 × (Nat → Int64) × (Nat → Int64) × (Nat → Int32) × (Nat → Int64) × (Nat → Int32))) er_20.symm).trans ((congrArg (fun (u_19 : Nat → Int32) => (((r_20, M_at, M_fault, M_valueMany, M_signMany, M_tells, M_way, M_moreTick, M_moreForce, M_runTurns, M_runFirst, M_runLast, M_peak, M_beside, M_besideAt, fNw, fVs, fSg, fWs, u_19)) : Int32 × Int32 × Int32 × Int32 × Int32 × Int64 × Int32 × Int64 × Int64 × Int32 × Int64 × Int64 × Int64 × Int64 × Int32 × (Nat → Int64) × (Nat → Int64) × (Nat → Int32) × (Nat → Int64) × (Nat → Int32))) eu_19.symm))))))))).symm
        have hf1 := congrArg Prod.fst hf
        have hf2 := congrArg Prod.snd hf
        have en_0 : fNw = fNw := by first | assumption | rfl
        have en_1 : (M_way : Int32) = 0 := by first | assumption | rfl
        have en_2 : (M_moreTick : Int64) = (-1) := by first | assumption | rfl
        exact kk_ei hx hb hr hlocks hK hq [4, 0, 1, 2, 3, 5] (M_at, M_fault, M_valueMany, M_signMany, M_tells, M_way, M_moreTick, M_moreForce, M_runTurns, M_runFirst, M_runLast, M_peak, M_beside, M_besideAt, fNw, fVs, fSg, fWs, u_19) rfl (by decide) dX8_when_43 ⟨hf1, hf2, en_0, en_1, en_2⟩
      · skip
        have hj := (in_i (x := p3) (a := 1) (b := 40) (hrj ▸ c_18)).2
        have hj40 : p3.toInt ≤ 40 := hj
        refine lv_iload hx hb dX8_when_26 (lv_at hl 4 rfl) ?_
        refine lv_i2l hx hb dX8_when_28 rfl ?_
        refine lv_lconst (v := 0) hx hb dX8_when_29 (by decide) ?_
        refine lv_lconst (v := 1) hx hb dX8_when_30 (by decide) ?_
        refine kk_Si (As := [.long p4.toInt64, .long 0, .long 1]) (rest := []) (wr := [(aM, .inr (8, [.ref aNw, .ref rM_kept, .ref rM_isKept, .ref aRf, .int M_at, .int M_fault, .ref aVs, .int M_valueMany, .ref aSg, .int M_signMany, .long M_tells, .int M_way, .int M_wish, .long M_moreTick, .long M_moreForce, .int M_runTurns, .long M_runFirst, .long M_runLast, .ref aWs, .long M_peak, .long M_beside, .int M_besideAt])), (aNw, .inl (cNw, 139, .inr (.inl fNw))), (aVs, .inl (cVs, 64, .inr (.inl fVs))), (aSg, .inl (cSg, 128, .inl fSg)), (aWs, .inl (cWs, 53, .inr (.inl fWs))), (aRf, .inl (cRf, 3, .inl fRf))]) ⟨hx, hb, hml, hown, hts⟩ (c_X8_in l G p4.toInt64 0 1) (kk_cwS 3 hts hsb wd_156 wd_157 wd_5 wd_158 rfl rfl hd_X8_in ⟨Nat.le_of_ble_eq_true rfl, Nat.le_of_ble_eq_true rfl⟩) hA hK hq [] [0, 1, 2, 3, 4, 5] [] rfl rfl rfl (by decide) (by decide) (by decide) rfl hl.1 rfl (Nat.le_of_ble_eq_true rfl) dX8_when_31 ⟨Nat.zero_le _, Nat.zero_le _⟩ (fun r_23 u_22 H locs h_24 hq => ?_)
        obtain ⟨er_23, zr_23⟩ := h_24
        have hq : kAt G A s [(aM, .inr (8, [.ref aNw, .ref rM_kept, .ref rM_isKept, .ref aRf, .int M_at, .int M_fault, .ref aVs, .int M_valueMany, .ref aSg, .int M_signMany, .long M_tells, .int M_way, .int M_wish, .long M_moreTick, .long M_moreForce, .int M_runTurns, .long M_runFirst, .long M_runLast, .ref aWs, .long M_peak, .long M_beside, .int M_besideAt])), (aNw, .inl (cNw, 139, .inr (.inl fNw))), (aVs, .inl (cVs, 64, .inr (.inl fVs))), (aSg, .inl (cSg, 128, .inl fSg)), (aWs, .inl (cWs, 53, .inr (.inl fWs))), (aRf, .inl (cRf, 3, .inl fRf))] H locs := hq
        refine lv_if_ne (tgt := 44) hx hb dX8_when_34 (by decide) (fun c_25 => ?_) (fun c_25 => ?_)
        · skip
          refine lv_iconst (v := 0) hx hb dX8_when_44 (by decide) ?_
          refine lv_istore (lv' := [(5, .int 0), (0, .ref aM), (1, .int p1), (2, .int p2), (3, .int p3), (4, .int p4)]) hx hb dX8_when_45 hl (by decide) rfl (fun ls hl => ?_)
          refine lv_iconst (v := 0) hx hb dX8_when_47 (by decide) ?_
          refine lv_istore (lv' := [(6, .int 0), (5, .int 0), (0, .ref aM), (1, .int p1), (2, .int p2), (3, .int p3), (4, .int p4)]) hx hb dX8_when_48 hl (by decide) rfl (fun ls hl => ?_)
          refine lv_iconst (v := 0) hx hb dX8_when_50 (by decide) ?_
          refine lv_istore (lv' := [(7, .int 0), (6, .int 0), (5, .int 0), (0, .ref aM), (1, .int p1), (2, .int p2), (3, .int p3), (4, .int p4)]) hx hb dX8_when_51 hl (by decide) rfl (fun ls hl => ?_)
          refine lv_iconst (v := 0) hx hb dX8_when_53 (by decide) ?_
          refine lv_istore (lv' := [(8, .int 0), (7, .int 0), (6, .int 0), (5, .int 0), (0, .ref aM), (1, .int p1), (2, .int p2), (3, .int p3), (4, .int p4)]) hx hb dX8_when_54 hl (by decide) rfl (fun ls hl => ?_)
          refine kk_loop22 (fun N56 (i : Int32) (bs : Int32) (mo : Int32) (br : Int32) (at_ : Int32) (fl : Int32) (vn : Int32) (sm : Int32) (te : Int64) (rt : Int32) (rf : Int64) (rl : Int64) (pk : Int64) (be : Int64) (ba : Int32) (wy : Int32) (mtk : Int64) (mf : Int64) (nf : Nat → Int64) (vf : Nat → Int64) (sf : Nat → Int32) (ws : Nat → Int64) (H : Heap) (locs : List Loc) (ls : Array Slot) => lpX8_when_56 p1 p2 p3 M_wish (41) 0 0 0 0 M_at M_fault M_valueMany M_signMany M_tells M_runTurns M_runFirst M_runLast M_peak M_beside M_besideAt M_way M_moreTick M_moreForce fNw fVs fSg fWs = lpX8_when_56 p1 p2 p3 M_wish N56 i bs mo br at_ fl vn sm te rt rf rl pk be ba wy mtk mf nf vf sf ws ∧ (0 ≤ i.toInt) ∧ (i.toInt ≤ 40) ∧ (i.toInt + N56 = 41) ∧ (nf = fNw) ∧ (wy = 0) ∧ (mtk = (-1)) ∧ lv_has ls 10 [(8, .int i), (7, .int br), (6, .int mo), (5, .int bs), (0, .ref aM), (1, .int p1), (2, .int p2), (3, .int p3), (4, .int p4)] ∧ kAt G A s [(aM, .inr (8, [.ref aNw, .ref rM_kept, .ref rM_isKept, .ref aRf, .int at_, .int fl, .ref aVs, .int vn, .ref aSg, .int sm, .long te, .int wy, .int M_wish, .long mtk, .long mf, .int rt, .long rf, .long rl, .ref aWs, .long pk, .long be, .int ba])), (aNw, .inl (cNw, 139, .inr (.inl nf))), (aVs, .inl (cVs, 64, .inr (.inl vf))), (aSg, .inl (cSg, 128, .inl sf)), (aWs, .inl (cWs, 53, .inr (.inl ws))), (aRf, .inl (cRf, 3, .inl fRf))] H locs) 56 (fun i bs mo br at_ fl vn sm te rt rf rl pk be ba wy mtk mf nf vf sf ws => []) (fun i bs mo br at_ fl vn sm te rt rf rl pk be ba wy mtk mf nf vf sf ws H locs ls hv => ?_) (fun N56 i bs mo br at_ fl vn sm te rt rf rl pk be ba wy mtk mf nf vf sf ws H locs ls ih56 hv => ?_) (41) 0 0 0 0 M_at M_fault M_valueMany M_signMany M_tells M_runTurns M_runFirst M_runLast M_peak M_beside M_besideAt M_way M_moreTick M_moreForce fNw fVs fSg fWs _ _ _ ⟨rfl, (by decide), (by decide), (by decide), rfl, w0, mt, lv_sub hl [0, 1, 2, 3, 4, 5, 6, 7, 8] rfl, hq⟩
          · skip
            obtain ⟨hrel56, i0, i1, hN, nwf, wyf, mtf, hl, hq⟩ := hv
            omega
          · skip
            obtain ⟨hrel56, i0, i1, hN, nwf, wyf, mtf, hl, hq⟩ := hv
            refine lv_iload hx hb dX8_when_56 (lv_at hl 0 rfl) ?_
            refine lv_iload_n hx hb dX8_when_58 rfl (lv_at hl 7 rfl) ?_
            refine lv_icmp_ge (tgt := 113) hx hb dX8_when_59 (by decide) (fun c_26 => ?_) (fun c_26 => ?_)
            · skip
              have hst_28 : lpX8_when_56 p1 p2 p3 M_wish (N56 + 1) i bs mo br at_ fl vn sm te rt rf rl pk be ba wy mtk mf nf vf sf ws = ((i, bs, mo, br, at_, fl, vn, sm, te, rt, rf, rl, pk, be, ba, wy, mtk, mf, nf, vf, sf, ws) : Int32 × Int32 × Int32 × Int32 × Int32 × Int32 × Int32 × Int32 × Int64 × Int32 × Int64 × Int64 × Int64 × Int64 × Int32 × Int32 × Int64 × Int64 × (Nat → Int64) × (Nat → Int64) × (Nat → Int32) × (Nat → Int64)) := by
                exact (if_pos c_26).trans (rfl)
              have hx_27 : ((i, bs, mo, br, at_, fl, vn, sm, te, rt, rf, rl, pk, be, ba, wy, mtk, mf, nf, vf, sf, ws) : Int32 × Int32 × Int32 × Int32 × Int32 × Int32 × Int32 × Int32 × Int64 × Int32 × Int64 × Int64 × Int64 × Int64 × Int32 × Int32 × Int64 × Int64 × (Nat → Int64) × (Nat → Int64) × (Nat → Int32) × (Nat → Int64)) = lpX8_when_56 p1 p2 p3 M_wish (41) 0 0 0 0 M_at M_fault M_valueMany M_signMany M_tells M_runTurns M_runFirst M_runLast M_peak M_beside M_besideAt M_way M_moreTick M_moreForce fNw fVs fSg fWs := (hrel56.trans (hst_28)).symm
              obtain ⟨z_29, gz_29⟩ : ∃ z : Int32 × Int32 × Int32 × Int32 × Int32 × Int32 × Int32 × Int32 × Int64 × Int32 × Int64 × Int64 × Int64 × Int64 × Int32 × Int32 × Int64 × Int64 × (Nat → Int64) × (Nat → Int64) × (Nat → Int32) × (Nat → Int64), z = (i, bs, mo, br, at_, fl, vn, sm, te, rt, rf, rl, pk, be, ba, wy, mtk, mf, nf, vf, sf, ws) := ⟨_, rfl⟩
              have ez_29 : z_29 = lpX8_when_56 p1 p2 p3 M_wish (41) 0 0 0 0 M_at M_fault M_valueMany M_signMany M_tells M_runTurns M_runFirst M_runLast M_peak M_beside M_besideAt M_way M_moreTick M_moreForce fNw fVs fSg fWs := gz_29.trans hx_27
              have hl : lv_has ls 10 [(8, .int z_29.1), (7, .int z_29.2.2.2.1), (6, .int z_29.2.2.1), (5, .int z_29.2.1), (0, .ref aM), (1, .int p1), (2, .int p2), (3, .int p3), (4, .int p4)] := by subst gz_29; exact hl
              have hq : kAt G A s [(aM, .inr (8, [.ref aNw, .ref rM_kept, .ref rM_isKept, .ref aRf, .int z_29.2.2.2.2.1, .int z_29.2.2.2.2.2.1, .ref aVs, .int z_29.2.2.2.2.2.2.1, .ref aSg, .int z_29.2.2.2.2.2.2.2.1, .long z_29.2.2.2.2.2.2.2.2.1, .int z_29.2.2.2.2.2.2.2.2.2.2.2.2.2.2.2.1, .int M_wish, .long z_29.2.2.2.2.2.2.2.2.2.2.2.2.2.2.2.2.1, .long z_29.2.2.2.2.2.2.2.2.2.2.2.2.2.2.2.2.2.1, .int z_29.2.2.2.2.2.2.2.2.2.1, .long z_29.2.2.2.2.2.2.2.2.2.2.1, .long z_29.2.2.2.2.2.2.2.2.2.2.2.1, .ref aWs, .long z_29.2.2.2.2.2.2.2.2.2.2.2.2.1, .long z_29.2.2.2.2.2.2.2.2.2.2.2.2.2.1, .int z_29.2.2.2.2.2.2.2.2.2.2.2.2.2.2.1])), (aNw, .inl (cNw, 139, .inr (.inl z_29.2.2.2.2.2.2.2.2.2.2.2.2.2.2.2.2.2.2.1))), (aVs, .inl (cVs, 64, .inr (.inl z_29.2.2.2.2.2.2.2.2.2.2.2.2.2.2.2.2.2.2.2.1))), (aSg, .inl (cSg, 128, .inl z_29.2.2.2.2.2.2.2.2.2.2.2.2.2.2.2.2.2.2.2.2.1)), (aWs, .inl (cWs, 53, .inr (.inl z_29.2.2.2.2.2.2.2.2.2.2.2.2.2.2.2.2.2.2.2.2.2))), (aRf, .inl (cRf, 3, .inl fRf))] H locs := by subst gz_29; exact hq
              have nwz : z_29.2.2.2.2.2.2.2.2.2.2.2.2.2.2.2.2.2.2.1 = fNw := by subst gz_29; exact nwf
              have wyz : z_29.2.2.2.2.2.2.2.2.2.2.2.2.2.2.2.1 = 0 := by subst gz_29; exact wyf
              have mtz : z_29.2.2.2.2.2.2.2.2.2.2.2.2.2.2.2.2.1 = (-1) := by subst gz_29; exact mtf
              refine lv_iload hx hb dX8_when_113 (lv_at hl 8 rfl) ?_
              refine kk_join1 (fun (z0_31 : Int32) (H : Heap) (locs : List Loc) (ls : Array Slot) => z0_31 = (if p4 = 0 then z_29.2.1 else z_29.2.2.2.1) ∧ lv_has ls 10 [(8, .int z_29.1), (7, .int z_29.2.2.2.1), (6, .int z_29.2.2.1), (5, .int z_29.2.1), (0, .ref aM), (1, .int p1), (2, .int p2), (3, .int p3), (4, .int p4)] ∧ kAt G A s [(aM, .inr (8, [.ref aNw, .ref rM_kept, .ref rM_isKept, .ref aRf, .int z_29.2.2.2.2.1, .int z_29.2.2.2.2.2.1, .ref aVs, .int z_29.2.2.2.2.2.2.1, .ref aSg, .int z_29.2.2.2.2.2.2.2.1, .long z_29.2.2.2.2.2.2.2.2.1, .int z_29.2.2.2.2.2.2.2.2.2.2.2.2.2.2.2.1, .int M_wish, .long z_29.2.2.2.2.2.2.2.2.2.2.2.2.2.2.2.2.1, .long z_29.2.2.2.2.2.2.2.2.2.2.2.2.2.2.2.2.2.1, .int z_29.2.2.2.2.2.2.2.2.2.1, .long z_29.2.2.2.2.2.2.2.2.2.2.1, .long z_29.2.2.2.2.2.2.2.2.2.2.2.1, .ref aWs, .long z_29.2.2.2.2.2.2.2.2.2.2.2.2.1, .long z_29.2.2.2.2.2.2.2.2.2.2.2.2.2.1, .int z_29.2.2.2.2.2.2.2.2.2.2.2.2.2.2.1])), (aNw, .inl (cNw, 139, .inr (.inl z_29.2.2.2.2.2.2.2.2.2.2.2.2.2.2.2.2.2.2.1))), (aVs, .inl (cVs, 64, .inr (.inl z_29.2.2.2.2.2.2.2.2.2.2.2.2.2.2.2.2.2.2.2.1))), (aSg, .inl (cSg, 128, .inl z_29.2.2.2.2.2.2.2.2.2.2.2.2.2.2.2.2.2.2.2.2.1)), (aWs, .inl (cWs, 53, .inr (.inl z_29.2.2.2.2.2.2.2.2.2.2.2.2.2.2.2.2.2.2.2.2.2))), (aRf, .inl (cRf, 3, .inl fRf))] H locs) 125 (fun z0_31 => [.int z0_31]) (fun z0_31 H locs ls hv => ?_) (fun J_32 => ?_)
              · skip
                obtain ⟨ez0_31, hl, hq⟩ := hv
                have hf : ((z0_31, z_29.2.2.2.2.1, z_29.2.2.2.2.2.1, z_29.2.2.2.2.2.2.1, z_29.2.2.2.2.2.2.2.1, z_29.2.2.2.2.2.2.2.2.1, z_29.2.2.2.2.2.2.2.2.2.2.2.2.2.2.2.1, z_29.2.2.2.2.2.2.2.2.2.2.2.2.2.2.2.2.1, z_29.2.2.2.2.2.2.2.2.2.2.2.2.2.2.2.2.2.1, z_29.2.2.2.2.2.2.2.2.2.1, z_29.2.2.2.2.2.2.2.2.2.2.1, z_29.2.2.2.2.2.2.2.2.2.2.2.1, z_29.2.2.2.2.2.2.2.2.2.2.2.2.1, z_29.2.2.2.2.2.2.2.2.2.2.2.2.2.1, z_29.2.2.2.2.2.2.2.2.2.2.2.2.2.2.1, z_29.2.2.2.2.2.2.2.2.2.2.2.2.2.2.2.2.2.2.1, z_29.2.2.2.2.2.2.2.2.2.2.2.2.2.2.2.2.2.2.2.1, z_29.2.2.2.2.2.2.2.2.2.2.2.2.2.2.2.2.2.2.2.2.1, z_29.2.2.2.2.2.2.2.2.2.2.2.2.2.2.2.2.2.2.2.2.2, fRf) : Int32 × Int32 × Int32 × Int32 × Int32 × Int64 × Int32 × Int64 × Int64 × Int32 × Int64 × Int64 × Int64 × Int64 × Int32 × (Nat → Int64) × (Nat → Int64) × (Nat → Int32) × (Nat → Int64) × (Nat → Int32)) = fX8_when p1 p2 p3 p4 M_at M_fault M_valueMany M_signMany M_tells M_way M_wish M_moreTick M_moreForce M_runTurns M_runFirst M_runLast M_peak M_beside M_besideAt fNw fVs fSg fWs fRf := by
                  exact ((congrArg (fun (r_2 : Int32) => ((if r_2 = 0 then (
    let r_6 : Int32 := (fX8_bad (-2) fRf).1
    let u_5 : Nat → Int32 := (fX8_bad (-2) fRf).2
    (r_6, M_at, M_fault, M_valueMany, M_signMany, M_tells, M_way, M_moreTick, M_moreForce, M_runTurns, M_runFirst, M_runLast, M_peak, M_beside, M_besideAt, fNw, fVs, fSg, fWs, u_5))
  else (
    let r_9 : Int32 := fX8_isRun p2
    if r_9 = 0 then (
      let r_13 : Int32 := (fX8_bad (-2) fRf).1
      let u_12 : Nat → Int32 := (fX8_bad (-2) fRf).2
      (r_13, M_at, M_fault, M_valueMany, M_signMany, M_tells, M_way, M_moreTick, M_moreForce, M_runTurns, M_runFirst, M_runLast, M_peak, M_beside, M_besideAt, fNw, fVs, fSg, fWs, u_12))
    else (
      let r_16 : Int32 := fX8_in p3.toInt64 1 40
      if r_16 = 0 then (
        let r_20 : Int32 := (fX8_bad (-2) fRf).1
        let u_19 : Nat → Int32 := (fX8_bad (-2) fRf).2
        (r_20, M_at, M_fault, M_valueMany, M_signMany, M_tells, M_way, M_moreTick, M_moreForce, M_runTurns, M_runFirst, M_runLast, M_peak, M_beside, M_besideAt, fNw, fVs, fSg, fWs, u_19))
      else (
        let r_23 : Int32 := fX8_in p4.toInt64 0 1
        if r_23 = 0 then (
          let r_47 : Int32 := (fX8_bad (-2) fRf).1
          let u_46 : Nat → Int32 := (fX8_bad (-2) fRf).2
          (r_47, M_at, M_fault, M_valueMany, M_signMany, M_tells, M_way, M_moreTick, M_moreForce, M_runTurns, M_runFirst, M_runLast, M_peak, M_beside, M_besideAt, fNw, fVs, fSg, fWs, u_46))
        else (
          let z_29 : Int32 × Int32 × Int32 × Int32 × Int32 × Int32 × Int32 × Int32 × Int64 × Int32 × Int64 × Int64 × Int64 × Int64 × Int32 × Int32 × Int64 × Int64 × (Nat → Int64) × (Nat → Int64) × (Nat → Int32) × (Nat → Int64) := lpX8_when_56 p1 p2 p3 M_wish (41) 0 0 0 0 M_at M_fault M_valueMany M_signMany M_tells M_runTurns M_runFirst M_runLast M_peak M_beside M_besideAt M_way M_moreTick M_moreForce fNw fVs fSg fWs
          let z0_31 : Int32 := if p4 = 0 then z_29.2.1 else z_29.2.2.2.1
          (z0_31, z_29.2.2.2.2.1, z_29.2.2.2.2.2.1, z_29.2.2.2.2.2.2.1, z_29.2.2.2.2.2.2.2.1, z_29.2.2.2.2.2.2.2.2.1, z_29.2.2.2.2.2.2.2.2.2.2.2.2.2.2.2.1, z_29.2.2.2.2.2.2.2.2.2.2.2.2.2.2.2.2.1, z_29.2.2.2.2.2.2.2.2.2.2.2.2.2.2.2.2.2.1, z_29.2.2.2.2.2.2.2.2.2.1, z_29.2.2.2.2.2.2.2.2.2.2.1, z_29.2.2.2.2.2.2.2.2.2.2.2.1, z_29.2.2.2.2.2.2.2.2.2.2.2.2.1, z_29.2.2.2.2.2.2.2.2.2.2.2.2.2.1, z_29.2.2.2.2.2.2.2.2.2.2.2.2.2.2.1, z_29.2.2.2.2.2.2.2.2.2.2.2.2.2.2.2.2.2.2.1, z_29.2.2.2.2.2.2.2.2.2.2.2.2.2.2.2.2.2.2.2.1, z_29.2.2.2.2.2.2.2.2.2.2.2.2.2.2.2.2.2.2.2.2.1, z_29.2.2.2.2.2.2.2.2.2.2.2.2.2.2.2.2.2.2.2.2.2, fRf)))))) : Int32 × Int32 × Int32 × Int32 × Int32 × Int64 × Int32 × Int64 × Int64 × Int32 × Int64 × Int64 × Int64 × Int64 × Int32 × (Nat → Int64) × (Nat → Int64) × (Nat → Int32) × (Nat → Int64) × (Nat → Int32))) er_2.symm).trans ((if_neg c_4).trans ((congrArg (fun (r_9 : Int32) => ((if r_9 = 0 then (
    let r_13 : Int32 := (fX8_bad (-2) fRf).1
    let u_12 : Nat → Int32 := (fX8_bad (-2) fRf).2
    (r_13, M_at, M_fault, M_valueMany, M_signMany, M_tells, M_way, M_moreTick, M_moreForce, M_runTurns, M_runFirst, M_runLast, M_peak, M_beside, M_besideAt, fNw, fVs, fSg, fWs, u_12))
  else (
    let r_16 : Int32 := fX8_in p3.toInt64 1 40
    if r_16 = 0 then (
      let r_20 : Int32 := (fX8_bad (-2) fRf).1
      let u_19 : Nat → Int32 := (fX8_bad (-2) fRf).2
      (r_20, M_at, M_fault, M_valueMany, M_signMany, M_tells, M_way, M_moreTick, M_moreForce, M_runTurns, M_runFirst, M_runLast, M_peak, M_beside, M_besideAt, fNw, fVs, fSg, fWs, u_19))
    else (
      let r_23 : Int32 := fX8_in p4.toInt64 0 1
      if r_23 = 0 then (
        let r_47 : Int32 := (fX8_bad (-2) fRf).1
        let u_46 : Nat → Int32 := (fX8_bad (-2) fRf).2
        (r_47, M_at, M_fault, M_valueMany, M_signMany, M_tells, M_way, M_moreTick, M_moreForce, M_runTurns, M_runFirst, M_runLast, M_peak, M_beside, M_besideAt, fNw, fVs, fSg, fWs, u_46))
      else (
        let z_29 : Int32 × Int32 × Int32 × Int32 × Int32 × Int32 × Int32 × Int32 × Int64 × Int32 × Int64 × Int64 × Int64 × Int64 × Int32 × Int32 × Int64 × Int64 × (Nat → Int64) × (Nat → Int64) × (Nat → Int32) × (Nat → Int64) := lpX8_when_56 p1 p2 p3 M_wish (41) 0 0 0 0 M_at M_fault M_valueMany M_signMany M_tells M_runTurns M_runFirst M_runLast M_peak M_beside M_besideAt M_way M_moreTick M_moreForce fNw fVs fSg fWs
        let z0_31 : Int32 := if p4 = 0 then z_29.2.1 else z_29.2.2.2.1
        (z0_31, z_29.2.2.2.2.1, z_29.2.2.2.2.2.1, z_29.2.2.2.2.2.2.1, z_29.2.2.2.2.2.2.2.1, z_29.2.2.2.2.2.2.2.2.1, z_29.2.2.2.2.2.2.2.2.2.2.2.2.2.2.2.1, z_29.2.2.2.2.2.2.2.2.2.2.2.2.2.2.2.2.1, z_29.2.2.2.2.2.2.2.2.2.2.2.2.2.2.2.2.2.1, z_29.2.2.2.2.2.2.2.2.2.1, z_29.2.2.2.2.2.2.2.2.2.2.1, z_29.2.2.2.2.2.2.2.2.2.2.2.1, z_29.2.2.2.2.2.2.2.2.2.2.2.2.1, z_29.2.2.2.2.2.2.2.2.2.2.2.2.2.1, z_29.2.2.2.2.2.2.2.2.2.2.2.2.2.2.1, z_29.2.2.2.2.2.2.2.2.2.2.2.2.2.2.2.2.2.2.1, z_29.2.2.2.2.2.2.2.2.2.2.2.2.2.2.2.2.2.2.2.1, z_29.2.2.2.2.2.2.2.2.2.2.2.2.2.2.2.2.2.2.2.2.1, z_29.2.2.2.2.2.2.2.2.2.2.2.2.2.2.2.2.2.2.2.2.2, fRf))))) : Int32 × Int32 × Int32 × Int32 × Int32 × Int64 × Int32 × Int64 × Int64 × Int32 × Int64 × Int64 × Int64 × Int64 × Int32 × (Nat → Int64) × (Nat → Int64) × (Nat → Int32) × (Nat → Int64) × (Nat → Int32))) er_9.symm).trans ((if_neg c_11).trans ((congrArg (fun (r_16 : Int32) => ((if r_16 = 0 then (
    let r_20 : Int32 := (fX8_bad (-2) fRf).1
    let u_19 : Nat → Int32 := (fX8_bad (-2) fRf).2
    (r_20, M_at, M_fault, M_valueMany, M_signMany, M_tells, M_way, M_moreTick, M_moreForce, M_runTurns, M_runFirst, M_runLast, M_peak, M_beside, M_besideAt, fNw, fVs, fSg, fWs, u_19))
  else (
    let r_23 : Int32 := fX8_in p4.toInt64 0 1
    if r_23 = 0 then (
      let r_47 : Int32 := (fX8_bad (-2) fRf).1
      let u_46 : Nat → Int32 := (fX8_bad (-2) fRf).2
      (r_47, M_at, M_fault, M_valueMany, M_signMany, M_tells, M_way, M_moreTick, M_moreForce, M_runTurns, M_runFirst, M_runLast, M_peak, M_beside, M_besideAt, fNw, fVs, fSg, fWs, u_46))
    else (
      let z_29 : Int32 × Int32 × Int32 × Int32 × Int32 × Int32 × Int32 × Int32 × Int64 × Int32 × Int64 × Int64 × Int64 × Int64 × Int32 × Int32 × Int64 × Int64 × (Nat → Int64) × (Nat → Int64) × (Nat → Int32) × (Nat → Int64) := lpX8_when_56 p1 p2 p3 M_wish (41) 0 0 0 0 M_at M_fault M_valueMany M_signMany M_tells M_runTurns M_runFirst M_runLast M_peak M_beside M_besideAt M_way M_moreTick M_moreForce fNw fVs fSg fWs
      let z0_31 : Int32 := if p4 = 0 then z_29.2.1 else z_29.2.2.2.1
      (z0_31, z_29.2.2.2.2.1, z_29.2.2.2.2.2.1, z_29.2.2.2.2.2.2.1, z_29.2.2.2.2.2.2.2.1, z_29.2.2.2.2.2.2.2.2.1, z_29.2.2.2.2.2.2.2.2.2.2.2.2.2.2.2.1, z_29.2.2.2.2.2.2.2.2.2.2.2.2.2.2.2.2.1, z_29.2.2.2.2.2.2.2.2.2.2.2.2.2.2.2.2.2.1, z_29.2.2.2.2.2.2.2.2.2.1, z_29.2.2.2.2.2.2.2.2.2.2.1, z_29.2.2.2.2.2.2.2.2.2.2.2.1, z_29.2.2.2.2.2.2.2.2.2.2.2.2.1, z_29.2.2.2.2.2.2.2.2.2.2.2.2.2.1, z_29.2.2.2.2.2.2.2.2.2.2.2.2.2.2.1, z_29.2.2.2.2.2.2.2.2.2.2.2.2.2.2.2.2.2.2.1, z_29.2.2.2.2.2.2.2.2.2.2.2.2.2.2.2.2.2.2.2.1, z_29.2.2.2.2.2.2.2.2.2.2.2.2.2.2.2.2.2.2.2.2.1, z_29.2.2.2.2.2.2.2.2.2.2.2.2.2.2.2.2.2.2.2.2.2, fRf)))) : Int32 × Int32 × Int32 × Int32 × Int32 × Int64 × Int32 × Int64 × Int64 × Int32 × Int64 × Int64 × Int64 × Int64 × Int32 × (Nat → Int64) × (Nat → Int64) × (Nat → Int32) × (Nat → Int64) × (Nat → Int32))) er_16.symm).trans ((if_neg c_18).trans ((congrArg (fun (r_23 : Int32) => ((if r_23 = 0 then (
    let r_47 : Int32 := (fX8_bad (-2) fRf).1
    let u_46 : Nat → Int32 := (fX8_bad (-2) fRf).2
    (r_47, M_at, M_fault, M_valueMany, M_signMany, M_tells, M_way, M_moreTick, M_moreForce, M_runTurns, M_runFirst, M_runLast, M_peak, M_beside, M_besideAt, fNw, fVs, fSg, fWs, u_46))
  else (
    let z_29 : Int32 × Int32 × Int32 × Int32 × Int32 × Int32 × Int32 × Int32 × Int64 × Int32 × Int64 × Int64 × Int64 × Int64 × Int32 × Int32 × Int64 × Int64 × (Nat → Int64) × (Nat → Int64) × (Nat → Int32) × (Nat → Int64) := lpX8_when_56 p1 p2 p3 M_wish (41) 0 0 0 0 M_at M_fault M_valueMany M_signMany M_tells M_runTurns M_runFirst M_runLast M_peak M_beside M_besideAt M_way M_moreTick M_moreForce fNw fVs fSg fWs
    let z0_31 : Int32 := if p4 = 0 then z_29.2.1 else z_29.2.2.2.1
    (z0_31, z_29.2.2.2.2.1, z_29.2.2.2.2.2.1, z_29.2.2.2.2.2.2.1, z_29.2.2.2.2.2.2.2.1, z_29.2.2.2.2.2.2.2.2.1, z_29.2.2.2.2.2.2.2.2.2.2.2.2.2.2.2.1, z_29.2.2.2.2.2.2.2.2.2.2.2.2.2.2.2.2.1, z_29.2.2.2.2.2.2.2.2.2.2.2.2.2.2.2.2.2.1, z_29.2.2.2.2.2.2.2.2.2.1, z_29.2.2.2.2.2.2.2.2.2.2.1, z_29.2.2.2.2.2.2.2.2.2.2.2.1, z_29.2.2.2.2.2.2.2.2.2.2.2.2.1, z_29.2.2.2.2.2.2.2.2.2.2.2.2.2.1, z_29.2.2.2.2.2.2.2.2.2.2.2.2.2.2.1, z_29.2.2.2.2.2.2.2.2.2.2.2.2.2.2.2.2.2.2.1, z_29.2.2.2.2.2.2.2.2.2.2.2.2.2.2.2.2.2.2.2.1, z_29.2.2.2.2.2.2.2.2.2.2.2.2.2.2.2.2.2.2.2.2.1, z_29.2.2.2.2.2.2.2.2.2.2.2.2.2.2.2.2.2.2.2.2.2, fRf))) : Int32 × Int32 × Int32 × Int32 × Int32 × Int64 × Int32 × Int64 × Int64 × Int32 × Int64 × Int64 × Int64 × Int64 × Int32 × (Nat → Int64) × (Nat → Int64) × (Nat → Int32) × (Nat → Int64) × (Nat → Int32))) er_23.symm).trans ((if_neg c_25).trans ((congrArg (fun (z_29 : Int32 × Int32 × Int32 × Int32 × Int32 × Int32 × Int32 × Int32 × Int64 × Int32 × Int64 × Int64 × Int64 × Int64 × Int32 × Int32 × Int64 × Int64 × (Nat → Int64) × (Nat → Int64) × (Nat → Int32) × (Nat → Int64)) => ((let z0_31 : Int32 := if p4 = 0 then z_29.2.1 else z_29.2.2.2.1
  (z0_31, z_29.2.2.2.2.1, z_29.2.2.2.2.2.1, z_29.2.2.2.2.2.2.1, z_29.2.2.2.2.2.2.2.1, z_29.2.2.2.2.2.2.2.2.1, z_29.2.2.2.2.2.2.2.2.2.2.2.2.2.2.2.1, z_29.2.2.2.2.2.2.2.2.2.2.2.2.2.2.2.2.1, z_29.2.2.2.2.2.2.2.2.2.2.2.2.2.2.2.2.2.1, z_29.2.2.2.2.2.2.2.2.2.1, z_29.2.2.2.2.2.2.2.2.2.2.1, z_29.2.2.2.2.2.2.2.2.2.2.2.1, z_29.2.2.2.2.2.2.2.2.2.2.2.2.1, z_29.2.2.2.2.2.2.2.2.2.2.2.2.2.1, z_29.2.2.2.2.2.2.2.2.2.2.2.2.2.2.1, z_29.2.2.2.2.2.2.2.2.2.2.2.2.2.2.2.2.2.2.1, z_29.2.2.2.2.2.2.2.2.2.2.2.2.2.2.2.2.2.2.2.1, z_29.2.2.2.2.2.2.2.2.2.2.2.2.2.2.2.2.2.2.2.2.1, z_29.2.2.2.2.2.2.2.2.2.2.2.2.2.2.2.2.2.2.2.2.2, fRf)) : Int32 × Int32 × Int32 × Int32 × Int32 × Int64 × Int32 × Int64 × Int64 × Int32 × Int64 × Int64 × Int64 × Int64 × Int32 × (Nat → Int64) × (Nat → Int64) × (Nat → Int32) × (Nat → Int64) × (Nat → Int32))) ez_29.symm).trans ((congrArg (fun (z0_31 : Int32) => (((z0_31, z_29.2.2.2.2.1, z_29.2.2.2.2.2.1, z_29.2.2.2.2.2.2.1, z_29.2.2.2.2.2.2.2.1, z_29.2.2.2.2.2.2.2.2.1, z_29.2.2.2.2.2.2.2.2.2.2.2.2.2.2.2.1, z_29.2.2.2.2.2.2.2.2.2.2.2.2.2.2.2.2.1, z_29.2.2.2.2.2.2.2.2.2.2.2.2.2.2.2.2.2.1, z_29.2.2.2.2.2.2.2.2.2.1, z_29.2.2.2.2.2.2.2.2.2.2.1, z_29.2.2.2.2.2.2.2.2.2.2.2.1, z_29.2.2.2.2.2.2.2.2.2.2.2.2.1, z_29.2.2.2.2.2.2.2.2.2.2.2.2.2.1, z_29.2.2.2.2.2.2.2.2.2.2.2.2.2.2.1, z_29.2.2.2.2.2.2.2.2.2.2.2.2.2.2.2.2.2.2.1, z_29.2.2.2.2.2.2.2.2.2.2.2.2.2.2.2.2.2.2.2.1, z_29.2.2.2.2.2.2.2.2.2.2.2.2.2.2.2.2.2.2.2.2.1, z_29.2.2.2.2.2.2.2.2.2.2.2.2.2.2.2.2.2.2.2.2.2, fRf)) : Int32 × Int32 × Int32 × Int32 × Int32 × Int64 × Int32 × Int64 × Int64 × Int32 × Int64 × Int64 × Int64 × Int64 × Int32 × (Nat → Int64) × (Nat → Int64) × (Nat → Int32) × (Nat → Int64) × (Nat → Int32))) ez0_31.symm))))))))))).symm
                have hf1 := congrArg Prod.fst hf
                have hf2 := congrArg Prod.snd hf
                have en_0 : z_29.2.2.2.2.2.2.2.2.2.2.2.2.2.2.2.2.2.2.1 = fNw := by first | assumption | rfl
                have en_1 : (z_29.2.2.2.2.2.2.2.2.2.2.2.2.2.2.2.1 : Int32) = 0 := by first | assumption | rfl
                have en_2 : (z_29.2.2.2.2.2.2.2.2.2.2.2.2.2.2.2.2.1 : Int64) = (-1) := by first | assumption | rfl
                exact kk_ei hx hb hr hlocks hK hq [0, 1, 2, 3, 4, 5] (z_29.2.2.2.2.1, z_29.2.2.2.2.2.1, z_29.2.2.2.2.2.2.1, z_29.2.2.2.2.2.2.2.1, z_29.2.2.2.2.2.2.2.2.1, z_29.2.2.2.2.2.2.2.2.2.2.2.2.2.2.2.1, z_29.2.2.2.2.2.2.2.2.2.2.2.2.2.2.2.2.1, z_29.2.2.2.2.2.2.2.2.2.2.2.2.2.2.2.2.2.1, z_29.2.2.2.2.2.2.2.2.2.1, z_29.2.2.2.2.2.2.2.2.2.2.1, z_29.2.2.2.2.2.2.2.2.2.2.2.1, z_29.2.2.2.2.2.2.2.2.2.2.2.2.1, z_29.2.2.2.2.2.2.2.2.2.2.2.2.2.1, z_29.2.2.2.2.2.2.2.2.2.2.2.2.2.2.1, z_29.2.2.2.2.2.2.2.2.2.2.2.2.2.2.2.2.2.2.1, z_29.2.2.2.2.2.2.2.2.2.2.2.2.2.2.2.2.2.2.2.1, z_29.2.2.2.2.2.2.2.2.2.2.2.2.2.2.2.2.2.2.2.2.1, z_29.2.2.2.2.2.2.2.2.2.2.2.2.2.2.2.2.2.2.2.2.2, fRf) rfl (by decide) dX8_when_125 ⟨hf1, hf2, en_0, en_1, en_2⟩
              · skip
                refine lv_if_ne (tgt := 123) hx hb dX8_when_115 (by decide) (fun c_30 => ?_) (fun c_30 => ?_)
                · skip
                  refine lv_iload hx hb dX8_when_123 (lv_at hl 1 rfl) ?_
                  exact J_32 z_29.2.2.2.1 _ _ _ ⟨(if_neg c_30).symm, lv_sub hl [0, 1, 2, 3, 4, 5, 6, 7, 8] rfl, hq⟩
                · skip
                  refine lv_iload hx hb dX8_when_118 (lv_at hl 3 rfl) ?_
                  refine lv_goto (tgt := 125) hx hb dX8_when_120 (by decide) ?_
                  exact J_32 z_29.2.1 _ _ _ ⟨(if_pos c_30).symm, lv_sub hl [0, 1, 2, 3, 4, 5, 6, 7, 8] rfl, hq⟩
            · skip
              have hi : i.toInt < p3.toInt := by have h := c_26; rw [il_le] at h; omega
              refine lv_aload_n hx hb dX8_when_62 rfl (lv_at hl 4 rfl) ?_
              refine lv_iload hx hb dX8_when_63 (lv_at hl 0 rfl) ?_
              refine lv_iload_n hx hb dX8_when_65 rfl (lv_at hl 5 rfl) ?_
              refine lv_iload_n hx hb dX8_when_66 rfl (lv_at hl 6 rfl) ?_
              refine kk_Vi (As := [.int i, .int p1, .int p2]) (rest := []) (wr := [(aRf, .inl (cRf, 3, .inl fRf))]) ⟨hx, hb, hml, hown, hts⟩ (c_X8_worthOf l G aM aNw aVs aSg aWs rM_kept rM_isKept aRf cNw cVs cSg cWs i p1 p2 at_ fl vn sm te wy M_wish mtk mf rt rf rl pk be ba nf vf sf ws (nw_wn nwf wn) wyf (nw_tb nwf tb) hn.2) (kk_cwV 3 hts hsb wd_666 wd_667 wd_668 wd_5 wd_669 rfl rfl hd_X8_worthOf ⟨Nat.le_of_ble_eq_true rfl, Nat.le_of_ble_eq_true rfl⟩) hA hK hq [0, 1, 2, 3, 4] [5] [0, 1, 2, 3] rfl rfl rfl (by decide) (by decide) (by decide) 0 8 rfl rfl rfl rfl hl.1 rfl (Nat.le_of_ble_eq_true rfl) dX8_when_67 ⟨Nat.zero_le _, Nat.zero_le _⟩ (fun r_34 u_33 H locs h_35 hq => ?_)
              obtain ⟨er_34, eu_33, nw_u_33, wy_u_33, mt_u_33⟩ := h_35
              have hq : kAt G A s [(aRf, .inl (cRf, 3, .inl fRf)), (aM, .inr (8, [.ref aNw, .ref rM_kept, .ref rM_isKept, .ref aRf, .int u_33.1, .int u_33.2.1, .ref aVs, .int u_33.2.2.1, .ref aSg, .int u_33.2.2.2.1, .long u_33.2.2.2.2.1, .int u_33.2.2.2.2.2.1, .int M_wish, .long u_33.2.2.2.2.2.2.1, .long u_33.2.2.2.2.2.2.2.1, .int u_33.2.2.2.2.2.2.2.2.1, .long u_33.2.2.2.2.2.2.2.2.2.1, .long u_33.2.2.2.2.2.2.2.2.2.2.1, .ref aWs, .long u_33.2.2.2.2.2.2.2.2.2.2.2.1, .long u_33.2.2.2.2.2.2.2.2.2.2.2.2.1, .int u_33.2.2.2.2.2.2.2.2.2.2.2.2.2.1])), (aNw, .inl (cNw, 139, .inr (.inl u_33.2.2.2.2.2.2.2.2.2.2.2.2.2.2.1))), (aVs, .inl (cVs, 64, .inr (.inl u_33.2.2.2.2.2.2.2.2.2.2.2.2.2.2.2.1))), (aSg, .inl (cSg, 128, .inl u_33.2.2.2.2.2.2.2.2.2.2.2.2.2.2.2.2.1)), (aWs, .inl (cWs, 53, .inr (.inl u_33.2.2.2.2.2.2.2.2.2.2.2.2.2.2.2.2.2)))] H locs := hq
              have nw3 := nw_u_33
              have wy3 := wy_u_33
              have mt3 := mt_u_33
              refine lv_istore (lv' := [(9, .int r_34), (8, .int i), (7, .int br), (6, .int mo), (5, .int bs), (0, .ref aM), (1, .int p1), (2, .int p2), (3, .int p3), (4, .int p4)]) hx hb dX8_when_70 hl (by decide) rfl (fun ls hl => ?_)
              refine lv_iload hx hb dX8_when_72 (lv_at hl 1 rfl) ?_
              refine kk_join2 (fun (y6_37 : Int32) (y5_38 : Int32) (H : Heap) (locs : List Loc) (ls : Array Slot) => y6_37 = (if i = 0 then r_34 else if r_34 ≤ mo then mo else r_34) ∧ y5_38 = (if i = 0 then i else if r_34 ≤ mo then bs else i) ∧ lv_has ls 10 [(6, .int y6_37), (5, .int y5_38), (9, .int r_34), (8, .int i), (7, .int br), (0, .ref aM), (1, .int p1), (2, .int p2), (3, .int p3), (4, .int p4)] ∧ kAt G A s [(aRf, .inl (cRf, 3, .inl fRf)), (aM, .inr (8, [.ref aNw, .ref rM_kept, .ref rM_isKept, .ref aRf, .int u_33.1, .int u_33.2.1, .ref aVs, .int u_33.2.2.1, .ref aSg, .int u_33.2.2.2.1, .long u_33.2.2.2.2.1, .int u_33.2.2.2.2.2.1, .int M_wish, .long u_33.2.2.2.2.2.2.1, .long u_33.2.2.2.2.2.2.2.1, .int u_33.2.2.2.2.2.2.2.2.1, .long u_33.2.2.2.2.2.2.2.2.2.1, .long u_33.2.2.2.2.2.2.2.2.2.2.1, .ref aWs, .long u_33.2.2.2.2.2.2.2.2.2.2.2.1, .long u_33.2.2.2.2.2.2.2.2.2.2.2.2.1, .int u_33.2.2.2.2.2.2.2.2.2.2.2.2.2.1])), (aNw, .inl (cNw, 139, .inr (.inl u_33.2.2.2.2.2.2.2.2.2.2.2.2.2.2.1))), (aVs, .inl (cVs, 64, .inr (.inl u_33.2.2.2.2.2.2.2.2.2.2.2.2.2.2.2.1))), (aSg, .inl (cSg, 128, .inl u_33.2.2.2.2.2.2.2.2.2.2.2.2.2.2.2.2.1)), (aWs, .inl (cWs, 53, .inr (.inl u_33.2.2.2.2.2.2.2.2.2.2.2.2.2.2.2.2.2)))] H locs) 92 (fun y6_37 y5_38 => []) (fun y6_37 y5_38 H locs ls hv => ?_) (fun J_39 => ?_)
              · skip
                obtain ⟨ey6_37, ey5_38, hl, hq⟩ := hv
                refine lv_iload hx hb dX8_when_92 (lv_at hl 4 rfl) ?_
                refine lv_iload hx hb dX8_when_94 (lv_at hl 2 rfl) ?_
                refine kk_join1 (fun (z0_41 : Int32) (H : Heap) (locs : List Loc) (ls : Array Slot) => z0_41 = (if 0 ≤ r_34 then 0 else 1) ∧ lv_has ls 10 [(6, .int y6_37), (5, .int y5_38), (9, .int r_34), (8, .int i), (7, .int br), (0, .ref aM), (1, .int p1), (2, .int p2), (3, .int p3), (4, .int p4)] ∧ kAt G A s [(aRf, .inl (cRf, 3, .inl fRf)), (aM, .inr (8, [.ref aNw, .ref rM_kept, .ref rM_isKept, .ref aRf, .int u_33.1, .int u_33.2.1, .ref aVs, .int u_33.2.2.1, .ref aSg, .int u_33.2.2.2.1, .long u_33.2.2.2.2.1, .int u_33.2.2.2.2.2.1, .int M_wish, .long u_33.2.2.2.2.2.2.1, .long u_33.2.2.2.2.2.2.2.1, .int u_33.2.2.2.2.2.2.2.2.1, .long u_33.2.2.2.2.2.2.2.2.2.1, .long u_33.2.2.2.2.2.2.2.2.2.2.1, .ref aWs, .long u_33.2.2.2.2.2.2.2.2.2.2.2.1, .long u_33.2.2.2.2.2.2.2.2.2.2.2.2.1, .int u_33.2.2.2.2.2.2.2.2.2.2.2.2.2.1])), (aNw, .inl (cNw, 139, .inr (.inl u_33.2.2.2.2.2.2.2.2.2.2.2.2.2.2.1))), (aVs, .inl (cVs, 64, .inr (.inl u_33.2.2.2.2.2.2.2.2.2.2.2.2.2.2.2.1))), (aSg, .inl (cSg, 128, .inl u_33.2.2.2.2.2.2.2.2.2.2.2.2.2.2.2.2.1)), (aWs, .inl (cWs, 53, .inr (.inl u_33.2.2.2.2.2.2.2.2.2.2.2.2.2.2.2.2.2)))] H locs) 104 (fun z0_41 => [.int z0_41, .int br]) (fun z0_41 H locs ls hv => ?_) (fun J_42 => ?_)
                · skip
                  obtain ⟨ez0_41, hl, hq⟩ := hv
                  refine lv_iadd hx hb dX8_when_104 ?_
                  refine lv_topi (fun x7_43 ex7_43 => ?_)
                  refine lv_istore (lv' := [(7, .int x7_43), (6, .int y6_37), (5, .int y5_38), (9, .int r_34), (8, .int i), (0, .ref aM), (1, .int p1), (2, .int p2), (3, .int p3), (4, .int p4)]) hx hb dX8_when_105 hl (by decide) rfl (fun ls hl => ?_)
                  refine lv_iinc (v := i + 1) (lv' := [(8, .int (i + 1)), (7, .int x7_43), (6, .int y6_37), (5, .int y5_38), (9, .int r_34), (0, .ref aM), (1, .int p1), (2, .int p2), (3, .int p3), (4, .int p4)]) hx hb dX8_when_107 hl (k := 4) rfl rfl (by decide) rfl (fun ls hl => ?_)
                  refine lv_goto (tgt := 56) hx hb dX8_when_110 (by decide) ?_
                  have hst_44 : lpX8_when_56 p1 p2 p3 M_wish (N56 + 1) i bs mo br at_ fl vn sm te rt rf rl pk be ba wy mtk mf nf vf sf ws = lpX8_when_56 p1 p2 p3 M_wish N56 (i + 1) y5_38 y6_37 x7_43 u_33.1 u_33.2.1 u_33.2.2.1 u_33.2.2.2.1 u_33.2.2.2.2.1 u_33.2.2.2.2.2.2.2.2.1 u_33.2.2.2.2.2.2.2.2.2.1 u_33.2.2.2.2.2.2.2.2.2.2.1 u_33.2.2.2.2.2.2.2.2.2.2.2.1 u_33.2.2.2.2.2.2.2.2.2.2.2.2.1 u_33.2.2.2.2.2.2.2.2.2.2.2.2.2.1 u_33.2.2.2.2.2.1 u_33.2.2.2.2.2.2.1 u_33.2.2.2.2.2.2.2.1 u_33.2.2.2.2.2.2.2.2.2.2.2.2.2.2.1 u_33.2.2.2.2.2.2.2.2.2.2.2.2.2.2.2.1 u_33.2.2.2.2.2.2.2.2.2.2.2.2.2.2.2.2.1 u_33.2.2.2.2.2.2.2.2.2.2.2.2.2.2.2.2.2 := by
                    subst ex7_43 ez0_41 ey5_38 ey6_37 eu_33 er_34
                    exact (if_neg c_26).trans (rfl)
                  exact ih56 (i + 1) y5_38 y6_37 x7_43 u_33.1 u_33.2.1 u_33.2.2.1 u_33.2.2.2.1 u_33.2.2.2.2.1 u_33.2.2.2.2.2.2.2.2.1 u_33.2.2.2.2.2.2.2.2.2.1 u_33.2.2.2.2.2.2.2.2.2.2.1 u_33.2.2.2.2.2.2.2.2.2.2.2.1 u_33.2.2.2.2.2.2.2.2.2.2.2.2.1 u_33.2.2.2.2.2.2.2.2.2.2.2.2.2.1 u_33.2.2.2.2.2.1 u_33.2.2.2.2.2.2.1 u_33.2.2.2.2.2.2.2.1 u_33.2.2.2.2.2.2.2.2.2.2.2.2.2.2.1 u_33.2.2.2.2.2.2.2.2.2.2.2.2.2.2.2.1 u_33.2.2.2.2.2.2.2.2.2.2.2.2.2.2.2.2.1 u_33.2.2.2.2.2.2.2.2.2.2.2.2.2.2.2.2.2 _ _ _ ⟨(hrel56.trans (hst_44)), (by have := kk_inc (x := i) (by omega); omega), (by have := kk_inc (x := i) (by omega); omega), (by have := kk_inc (x := i) (by omega); omega), (nw3.trans nwf), wy3, mt3, lv_sub hl [0, 1, 2, 3, 5, 6, 7, 8, 9] rfl, (kk_sub hq [1, 2, 3, 4, 5, 0] rfl (by decide))⟩
                · skip
                  refine lv_if_ge (tgt := 103) hx hb dX8_when_96 (by decide) (fun c_40 => ?_) (fun c_40 => ?_)
                  · skip
                    refine lv_iconst (v := 0) hx hb dX8_when_103 (by decide) ?_
                    exact J_42 0 _ _ _ ⟨(if_pos c_40).symm, lv_sub hl [0, 1, 2, 3, 4, 5, 6, 7, 8, 9] rfl, hq⟩
                  · skip
                    refine lv_iconst (v := 1) hx hb dX8_when_99 (by decide) ?_
                    refine lv_goto (tgt := 104) hx hb dX8_when_100 (by decide) ?_
                    exact J_42 1 _ _ _ ⟨(if_neg c_40).symm, lv_sub hl [0, 1, 2, 3, 4, 5, 6, 7, 8, 9] rfl, hq⟩
              · skip
                refine lv_if_eq (tgt := 84) hx hb dX8_when_74 (by decide) (fun c_36 => ?_) (fun c_36 => ?_)
                · skip
                  refine lv_iload hx hb dX8_when_84 (lv_at hl 1 rfl) ?_
                  refine lv_istore (lv' := [(5, .int i), (9, .int r_34), (8, .int i), (7, .int br), (6, .int mo), (0, .ref aM), (1, .int p1), (2, .int p2), (3, .int p3), (4, .int p4)]) hx hb dX8_when_86 hl (by decide) rfl (fun ls hl => ?_)
                  refine lv_iload hx hb dX8_when_88 (lv_at hl 1 rfl) ?_
                  refine lv_istore (lv' := [(6, .int r_34), (5, .int i), (9, .int r_34), (8, .int i), (7, .int br), (0, .ref aM), (1, .int p1), (2, .int p2), (3, .int p3), (4, .int p4)]) hx hb dX8_when_90 hl (by decide) rfl (fun ls hl => ?_)
                  exact J_39 r_34 i _ _ _ ⟨(if_pos c_36).symm, (if_pos c_36).symm, lv_sub hl [0, 1, 2, 3, 4, 5, 6, 7, 8, 9] rfl, hq⟩
                · skip
                  refine lv_iload hx hb dX8_when_77 (lv_at hl 0 rfl) ?_
                  refine lv_iload hx hb dX8_when_79 (lv_at hl 3 rfl) ?_
                  refine lv_icmp_le (tgt := 92) hx hb dX8_when_81 (by decide) (fun c_45 => ?_) (fun c_45 => ?_)
                  · skip
                    exact J_39 mo bs _ _ _ ⟨((if_neg c_36).trans (if_pos c_45)).symm, ((if_neg c_36).trans (if_pos c_45)).symm, lv_sub hl [3, 4, 0, 1, 2, 5, 6, 7, 8, 9] rfl, hq⟩
                  · skip
                    refine lv_iload hx hb dX8_when_84 (lv_at hl 1 rfl) ?_
                    refine lv_istore (lv' := [(5, .int i), (9, .int r_34), (8, .int i), (7, .int br), (6, .int mo), (0, .ref aM), (1, .int p1), (2, .int p2), (3, .int p3), (4, .int p4)]) hx hb dX8_when_86 hl (by decide) rfl (fun ls hl => ?_)
                    refine lv_iload hx hb dX8_when_88 (lv_at hl 1 rfl) ?_
                    refine lv_istore (lv' := [(6, .int r_34), (5, .int i), (9, .int r_34), (8, .int i), (7, .int br), (0, .ref aM), (1, .int p1), (2, .int p2), (3, .int p3), (4, .int p4)]) hx hb dX8_when_90 hl (by decide) rfl (fun ls hl => ?_)
                    exact J_39 r_34 i _ _ _ ⟨((if_neg c_36).trans (if_neg c_45)).symm, ((if_neg c_36).trans (if_neg c_45)).symm, lv_sub hl [0, 1, 2, 3, 4, 5, 6, 7, 8, 9] rfl, hq⟩
        · skip
          refine lv_aload_n hx hb dX8_when_37 rfl (lv_at hl 0 rfl) ?_
          refine lv_bipush (v := -2) hx hb dX8_when_38 (by decide) ?_
          refine kk_Vi (As := [.int (-2)]) (rest := []) (wr := [(aNw, .inl (cNw, 139, .inr (.inl fNw))), (aVs, .inl (cVs, 64, .inr (.inl fVs))), (aSg, .inl (cSg, 128, .inl fSg)), (aWs, .inl (cWs, 53, .inr (.inl fWs)))]) ⟨hx, hb, hml, hown, hts⟩ (c_X8_bad l G aM aRf aNw rM_kept rM_isKept aVs aSg aWs cRf (-2) M_at M_fault M_valueMany M_signMany M_tells M_way M_wish M_moreTick M_moreForce M_runTurns M_runFirst M_runLast M_peak M_beside M_besideAt fRf) (kk_cwV 1 hts hsb wd_159 wd_160 wd_161 wd_5 wd_162 rfl rfl hd_X8_bad ⟨Nat.le_of_ble_eq_true rfl, Nat.le_of_ble_eq_true rfl⟩) hA hK hq [0, 5] [1, 2, 3, 4] [4] rfl rfl rfl (by decide) (by decide) (by decide) 0 8 rfl rfl rfl rfl hl.1 rfl (Nat.le_of_ble_eq_true rfl) dX8_when_40 ⟨Nat.zero_le _, Nat.zero_le _⟩ (fun r_47 u_46 H locs h_48 hq => ?_)
          obtain ⟨er_47, eu_46⟩ := h_48
          have hq : kAt G A s [(aNw, .inl (cNw, 139, .inr (.inl fNw))), (aVs, .inl (cVs, 64, .inr (.inl fVs))), (aSg, .inl (cSg, 128, .inl fSg)), (aWs, .inl (cWs, 53, .inr (.inl fWs))), (aM, .inr (8, [.ref aNw, .ref rM_kept, .ref rM_isKept, .ref aRf, .int M_at, .int M_fault, .ref aVs, .int M_valueMany, .ref aSg, .int M_signMany, .long M_tells, .int M_way, .int M_wish, .long M_moreTick, .long M_moreForce, .int M_runTurns, .long M_runFirst, .long M_runLast, .ref aWs, .long M_peak, .long M_beside, .int M_besideAt])), (aRf, .inl (cRf, 3, .inl u_46))] H locs := hq
          have hf : ((r_47, M_at, M_fault, M_valueMany, M_signMany, M_tells, M_way, M_moreTick, M_moreForce, M_runTurns, M_runFirst, M_runLast, M_peak, M_beside, M_besideAt, fNw, fVs, fSg, fWs, u_46) : Int32 × Int32 × Int32 × Int32 × Int32 × Int64 × Int32 × Int64 × Int64 × Int32 × Int64 × Int64 × Int64 × Int64 × Int32 × (Nat → Int64) × (Nat → Int64) × (Nat → Int32) × (Nat → Int64) × (Nat → Int32)) = fX8_when p1 p2 p3 p4 M_at M_fault M_valueMany M_signMany M_tells M_way M_wish M_moreTick M_moreForce M_runTurns M_runFirst M_runLast M_peak M_beside M_besideAt fNw fVs fSg fWs fRf := by
            exact ((congrArg (fun (r_2 : Int32) => ((if r_2 = 0 then (
    let r_6 : Int32 := (fX8_bad (-2) fRf).1
    let u_5 : Nat → Int32 := (fX8_bad (-2) fRf).2
    (r_6, M_at, M_fault, M_valueMany, M_signMany, M_tells, M_way, M_moreTick, M_moreForce, M_runTurns, M_runFirst, M_runLast, M_peak, M_beside, M_besideAt, fNw, fVs, fSg, fWs, u_5))
  else (
    let r_9 : Int32 := fX8_isRun p2
    if r_9 = 0 then (
      let r_13 : Int32 := (fX8_bad (-2) fRf).1
      let u_12 : Nat → Int32 := (fX8_bad (-2) fRf).2
      (r_13, M_at, M_fault, M_valueMany, M_signMany, M_tells, M_way, M_moreTick, M_moreForce, M_runTurns, M_runFirst, M_runLast, M_peak, M_beside, M_besideAt, fNw, fVs, fSg, fWs, u_12))
    else (
      let r_16 : Int32 := fX8_in p3.toInt64 1 40
      if r_16 = 0 then (
        let r_20 : Int32 := (fX8_bad (-2) fRf).1
        let u_19 : Nat → Int32 := (fX8_bad (-2) fRf).2
        (r_20, M_at, M_fault, M_valueMany, M_signMany, M_tells, M_way, M_moreTick, M_moreForce, M_runTurns, M_runFirst, M_runLast, M_peak, M_beside, M_besideAt, fNw, fVs, fSg, fWs, u_19))
      else (
        let r_23 : Int32 := fX8_in p4.toInt64 0 1
        if r_23 = 0 then (
          let r_47 : Int32 := (fX8_bad (-2) fRf).1
          let u_46 : Nat → Int32 := (fX8_bad (-2) fRf).2
          (r_47, M_at, M_fault, M_valueMany, M_signMany, M_tells, M_way, M_moreTick, M_moreForce, M_runTurns, M_runFirst, M_runLast, M_peak, M_beside, M_besideAt, fNw, fVs, fSg, fWs, u_46))
        else (
          let z_29 : Int32 × Int32 × Int32 × Int32 × Int32 × Int32 × Int32 × Int32 × Int64 × Int32 × Int64 × Int64 × Int64 × Int64 × Int32 × Int32 × Int64 × Int64 × (Nat → Int64) × (Nat → Int64) × (Nat → Int32) × (Nat → Int64) := lpX8_when_56 p1 p2 p3 M_wish (41) 0 0 0 0 M_at M_fault M_valueMany M_signMany M_tells M_runTurns M_runFirst M_runLast M_peak M_beside M_besideAt M_way M_moreTick M_moreForce fNw fVs fSg fWs
          let z0_31 : Int32 := if p4 = 0 then z_29.2.1 else z_29.2.2.2.1
          (z0_31, z_29.2.2.2.2.1, z_29.2.2.2.2.2.1, z_29.2.2.2.2.2.2.1, z_29.2.2.2.2.2.2.2.1, z_29.2.2.2.2.2.2.2.2.1, z_29.2.2.2.2.2.2.2.2.2.2.2.2.2.2.2.1, z_29.2.2.2.2.2.2.2.2.2.2.2.2.2.2.2.2.1, z_29.2.2.2.2.2.2.2.2.2.2.2.2.2.2.2.2.2.1, z_29.2.2.2.2.2.2.2.2.2.1, z_29.2.2.2.2.2.2.2.2.2.2.1, z_29.2.2.2.2.2.2.2.2.2.2.2.1, z_29.2.2.2.2.2.2.2.2.2.2.2.2.1, z_29.2.2.2.2.2.2.2.2.2.2.2.2.2.1, z_29.2.2.2.2.2.2.2.2.2.2.2.2.2.2.1, z_29.2.2.2.2.2.2.2.2.2.2.2.2.2.2.2.2.2.2.1, z_29.2.2.2.2.2.2.2.2.2.2.2.2.2.2.2.2.2.2.2.1, z_29.2.2.2.2.2.2.2.2.2.2.2.2.2.2.2.2.2.2.2.2.1, z_29.2.2.2.2.2.2.2.2.2.2.2.2.2.2.2.2.2.2.2.2.2, fRf)))))) : Int32 × Int32 × Int32 × Int32 × Int32 × Int64 × Int32 × Int64 × Int64 × Int32 × Int64 × Int64 × Int64 × Int64 × Int32 × (Nat → Int64) × (Nat → Int64) × (Nat → Int32) × (Nat → Int64) × (Nat → Int32))) er_2.symm).trans ((if_neg c_4).trans ((congrArg (fun (r_9 : Int32) => ((if r_9 = 0 then (
    let r_13 : Int32 := (fX8_bad (-2) fRf).1
    let u_12 : Nat → Int32 := (fX8_bad (-2) fRf).2
    (r_13, M_at, M_fault, M_valueMany, M_signMany, M_tells, M_way, M_moreTick, M_moreForce, M_runTurns, M_runFirst, M_runLast, M_peak, M_beside, M_besideAt, fNw, fVs, fSg, fWs, u_12))
  else (
    let r_16 : Int32 := fX8_in p3.toInt64 1 40
    if r_16 = 0 then (
      let r_20 : Int32 := (fX8_bad (-2) fRf).1
      let u_19 : Nat → Int32 := (fX8_bad (-2) fRf).2
      (r_20, M_at, M_fault, M_valueMany, M_signMany, M_tells, M_way, M_moreTick, M_moreForce, M_runTurns, M_runFirst, M_runLast, M_peak, M_beside, M_besideAt, fNw, fVs, fSg, fWs, u_19))
    else (
      let r_23 : Int32 := fX8_in p4.toInt64 0 1
      if r_23 = 0 then (
        let r_47 : Int32 := (fX8_bad (-2) fRf).1
        let u_46 : Nat → Int32 := (fX8_bad (-2) fRf).2
        (r_47, M_at, M_fault, M_valueMany, M_signMany, M_tells, M_way, M_moreTick, M_moreForce, M_runTurns, M_runFirst, M_runLast, M_peak, M_beside, M_besideAt, fNw, fVs, fSg, fWs, u_46))
      else (
        let z_29 : Int32 × Int32 × Int32 × Int32 × Int32 × Int32 × Int32 × Int32 × Int64 × Int32 × Int64 × Int64 × Int64 × Int64 × Int32 × Int32 × Int64 × Int64 × (Nat → Int64) × (Nat → Int64) × (Nat → Int32) × (Nat → Int64) := lpX8_when_56 p1 p2 p3 M_wish (41) 0 0 0 0 M_at M_fault M_valueMany M_signMany M_tells M_runTurns M_runFirst M_runLast M_peak M_beside M_besideAt M_way M_moreTick M_moreForce fNw fVs fSg fWs
        let z0_31 : Int32 := if p4 = 0 then z_29.2.1 else z_29.2.2.2.1
        (z0_31, z_29.2.2.2.2.1, z_29.2.2.2.2.2.1, z_29.2.2.2.2.2.2.1, z_29.2.2.2.2.2.2.2.1, z_29.2.2.2.2.2.2.2.2.1, z_29.2.2.2.2.2.2.2.2.2.2.2.2.2.2.2.1, z_29.2.2.2.2.2.2.2.2.2.2.2.2.2.2.2.2.1, z_29.2.2.2.2.2.2.2.2.2.2.2.2.2.2.2.2.2.1, z_29.2.2.2.2.2.2.2.2.2.1, z_29.2.2.2.2.2.2.2.2.2.2.1, z_29.2.2.2.2.2.2.2.2.2.2.2.1, z_29.2.2.2.2.2.2.2.2.2.2.2.2.1, z_29.2.2.2.2.2.2.2.2.2.2.2.2.2.1, z_29.2.2.2.2.2.2.2.2.2.2.2.2.2.2.1, z_29.2.2.2.2.2.2.2.2.2.2.2.2.2.2.2.2.2.2.1, z_29.2.2.2.2.2.2.2.2.2.2.2.2.2.2.2.2.2.2.2.1, z_29.2.2.2.2.2.2.2.2.2.2.2.2.2.2.2.2.2.2.2.2.1, z_29.2.2.2.2.2.2.2.2.2.2.2.2.2.2.2.2.2.2.2.2.2, fRf))))) : Int32 × Int32 × Int32 × Int32 × Int32 × Int64 × Int32 × Int64 × Int64 × Int32 × Int64 × Int64 × Int64 × Int64 × Int32 × (Nat → Int64) × (Nat → Int64) × (Nat → Int32) × (Nat → Int64) × (Nat → Int32))) er_9.symm).trans ((if_neg c_11).trans ((congrArg (fun (r_16 : Int32) => ((if r_16 = 0 then (
    let r_20 : Int32 := (fX8_bad (-2) fRf).1
    let u_19 : Nat → Int32 := (fX8_bad (-2) fRf).2
    (r_20, M_at, M_fault, M_valueMany, M_signMany, M_tells, M_way, M_moreTick, M_moreForce, M_runTurns, M_runFirst, M_runLast, M_peak, M_beside, M_besideAt, fNw, fVs, fSg, fWs, u_19))
  else (
    let r_23 : Int32 := fX8_in p4.toInt64 0 1
    if r_23 = 0 then (
      let r_47 : Int32 := (fX8_bad (-2) fRf).1
      let u_46 : Nat → Int32 := (fX8_bad (-2) fRf).2
      (r_47, M_at, M_fault, M_valueMany, M_signMany, M_tells, M_way, M_moreTick, M_moreForce, M_runTurns, M_runFirst, M_runLast, M_peak, M_beside, M_besideAt, fNw, fVs, fSg, fWs, u_46))
    else (
      let z_29 : Int32 × Int32 × Int32 × Int32 × Int32 × Int32 × Int32 × Int32 × Int64 × Int32 × Int64 × Int64 × Int64 × Int64 × Int32 × Int32 × Int64 × Int64 × (Nat → Int64) × (Nat → Int64) × (Nat → Int32) × (Nat → Int64) := lpX8_when_56 p1 p2 p3 M_wish (41) 0 0 0 0 M_at M_fault M_valueMany M_signMany M_tells M_runTurns M_runFirst M_runLast M_peak M_beside M_besideAt M_way M_moreTick M_moreForce fNw fVs fSg fWs
      let z0_31 : Int32 := if p4 = 0 then z_29.2.1 else z_29.2.2.2.1
      (z0_31, z_29.2.2.2.2.1, z_29.2.2.2.2.2.1, z_29.2.2.2.2.2.2.1, z_29.2.2.2.2.2.2.2.1, z_29.2.2.2.2.2.2.2.2.1, z_29.2.2.2.2.2.2.2.2.2.2.2.2.2.2.2.1, z_29.2.2.2.2.2.2.2.2.2.2.2.2.2.2.2.2.1, z_29.2.2.2.2.2.2.2.2.2.2.2.2.2.2.2.2.2.1, z_29.2.2.2.2.2.2.2.2.2.1, z_29.2.2.2.2.2.2.2.2.2.2.1, z_29.2.2.2.2.2.2.2.2.2.2.2.1, z_29.2.2.2.2.2.2.2.2.2.2.2.2.1, z_29.2.2.2.2.2.2.2.2.2.2.2.2.2.1, z_29.2.2.2.2.2.2.2.2.2.2.2.2.2.2.1, z_29.2.2.2.2.2.2.2.2.2.2.2.2.2.2.2.2.2.2.1, z_29.2.2.2.2.2.2.2.2.2.2.2.2.2.2.2.2.2.2.2.1, z_29.2.2.2.2.2.2.2.2.2.2.2.2.2.2.2.2.2.2.2.2.1, z_29.2.2.2.2.2.2.2.2.2.2.2.2.2.2.2.2.2.2.2.2.2, fRf)))) : Int32 × Int32 × Int32 × Int32 × Int32 × Int64 × Int32 × Int64 × Int64 × Int32 × Int64 × Int64 × Int64 × Int64 × Int32 × (Nat → Int64) × (Nat → Int64) × (Nat → Int32) × (Nat → Int64) × (Nat → Int32))) er_16.symm).trans ((if_neg c_18).trans ((congrArg (fun (r_23 : Int32) => ((if r_23 = 0 then (
    let r_47 : Int32 := (fX8_bad (-2) fRf).1
    let u_46 : Nat → Int32 := (fX8_bad (-2) fRf).2
    (r_47, M_at, M_fault, M_valueMany, M_signMany, M_tells, M_way, M_moreTick, M_moreForce, M_runTurns, M_runFirst, M_runLast, M_peak, M_beside, M_besideAt, fNw, fVs, fSg, fWs, u_46))
  else (
    let z_29 : Int32 × Int32 × Int32 × Int32 × Int32 × Int32 × Int32 × Int32 × Int64 × Int32 × Int64 × Int64 × Int64 × Int64 × Int32 × Int32 × Int64 × Int64 × (Nat → Int64) × (Nat → Int64) × (Nat → Int32) × (Nat → Int64) := lpX8_when_56 p1 p2 p3 M_wish (41) 0 0 0 0 M_at M_fault M_valueMany M_signMany M_tells M_runTurns M_runFirst M_runLast M_peak M_beside M_besideAt M_way M_moreTick M_moreForce fNw fVs fSg fWs
    let z0_31 : Int32 := if p4 = 0 then z_29.2.1 else z_29.2.2.2.1
    (z0_31, z_29.2.2.2.2.1, z_29.2.2.2.2.2.1, z_29.2.2.2.2.2.2.1, z_29.2.2.2.2.2.2.2.1, z_29.2.2.2.2.2.2.2.2.1, z_29.2.2.2.2.2.2.2.2.2.2.2.2.2.2.2.1, z_29.2.2.2.2.2.2.2.2.2.2.2.2.2.2.2.2.1, z_29.2.2.2.2.2.2.2.2.2.2.2.2.2.2.2.2.2.1, z_29.2.2.2.2.2.2.2.2.2.1, z_29.2.2.2.2.2.2.2.2.2.2.1, z_29.2.2.2.2.2.2.2.2.2.2.2.1, z_29.2.2.2.2.2.2.2.2.2.2.2.2.1, z_29.2.2.2.2.2.2.2.2.2.2.2.2.2.1, z_29.2.2.2.2.2.2.2.2.2.2.2.2.2.2.1, z_29.2.2.2.2.2.2.2.2.2.2.2.2.2.2.2.2.2.2.1, z_29.2.2.2.2.2.2.2.2.2.2.2.2.2.2.2.2.2.2.2.1, z_29.2.2.2.2.2.2.2.2.2.2.2.2.2.2.2.2.2.2.2.2.1, z_29.2.2.2.2.2.2.2.2.2.2.2.2.2.2.2.2.2.2.2.2.2, fRf))) : Int32 × Int32 × Int32 × Int32 × Int32 × Int64 × Int32 × Int64 × Int64 × Int32 × Int64 × Int64 × Int64 × Int64 × Int32 × (Nat → Int64) × (Nat → Int64) × (Nat → Int32) × (Nat → Int64) × (Nat → Int32))) er_23.symm).trans ((if_pos c_25).trans ((congrArg (fun (r_47 : Int32) => ((let u_46 : Nat → Int32 := (fX8_bad (-2) fRf).2
  (r_47, M_at, M_fault, M_valueMany, M_signMany, M_tells, M_way, M_moreTick, M_moreForce, M_runTurns, M_runFirst, M_runLast, M_peak, M_beside, M_besideAt, fNw, fVs, fSg, fWs, u_46)) : Int32 × Int32 × Int32 × Int32 × Int32 × Int64 × Int32 × Int64 × Int64 × Int32 × Int64 × Int64 × Int64 × Int64 × Int32 × (Nat → Int64) × (Nat → Int64) × (Nat → Int32) × (Nat → Int64) × (Nat → Int32))) er_47.symm).trans ((congrArg (fun (u_46 : Nat → Int32) => (((r_47, M_at, M_fault, M_valueMany, M_signMany, M_tells, M_way, M_moreTick, M_moreForce, M_runTurns, M_runFirst, M_runLast, M_peak, M_beside, M_besideAt, fNw, fVs, fSg, fWs, u_46)) : Int32 × Int32 × Int32 × Int32 × Int32 × Int64 × Int32 × Int64 × Int64 × Int32 × Int64 × Int64 × Int64 × Int64 × Int32 × (Nat → Int64) × (Nat → Int64) × (Nat → Int32) × (Nat → Int64) × (Nat → Int32))) eu_46.symm))))))))))).symm
          have hf1 := congrArg Prod.fst hf
          have hf2 := congrArg Prod.snd hf
          have en_0 : fNw = fNw := by first | assumption | rfl
          have en_1 : (M_way : Int32) = 0 := by first | assumption | rfl
          have en_2 : (M_moreTick : Int64) = (-1) := by first | assumption | rfl
          exact kk_ei hx hb hr hlocks hK hq [4, 0, 1, 2, 3, 5] (M_at, M_fault, M_valueMany, M_signMany, M_tells, M_way, M_moreTick, M_moreForce, M_runTurns, M_runFirst, M_runLast, M_peak, M_beside, M_besideAt, fNw, fVs, fSg, fWs, u_46) rfl (by decide) dX8_when_43 ⟨hf1, hf2, en_0, en_1, en_2⟩
