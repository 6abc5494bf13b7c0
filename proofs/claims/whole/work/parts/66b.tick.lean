theorem hold_lp (fN : Nat → Int64) : ∀ (N : Nat) (i : Int32) (wf : Nat → Int64), 0 ≤ i.toInt → i.toInt ≤ 53 → i.toInt + N = 54 → ∀ j, (lpX8_hold_2 fN N i wf).2 j = if i.toInt ≤ (j : Int) ∧ j < 53 then fN j else wf j
  | 0, i, wf, h0, h1, hN, j => by omega
  | N + 1, i, wf, h0, h1, hN, j => by
    have e : lpX8_hold_2 fN (N + 1) i wf = if 53 ≤ i then (i, wf) else lpX8_hold_2 fN N (i + 1) (vp_updL wf i.toNatClampNeg (fN i.toNatClampNeg)) := rfl
    have e53 : (53 : Int32).toInt = 53 := rfl
    rw [e]
    by_cases h : 53 ≤ i
    · rw [if_pos h]
      rw [il_le] at h
      rw [if_neg (by omega)]
    · rw [if_neg h]
      rw [il_le] at h
      have hi := kk_inc (x := i) (by omega)
      rw [hold_lp fN N (i + 1) _ (by omega) (by omega) (by omega), hi]
      have hc := kk_clN h0
      by_cases ej : j = i.toNatClampNeg
      · subst ej
        rw [if_neg (by omega), updL_eq, if_pos (by omega)]
      · rw [updL_ne ej]
        by_cases hj : i.toInt + 1 ≤ (j : Int) ∧ j < 53
        · rw [if_pos hj, if_pos (by omega)]
        · rw [if_neg hj, if_neg (by omega)]
theorem hold_eq (f w : Nat → Int64) : fX8_hold f w = fun j => if j < 53 then f j else w j := by
  funext j
  have h := hold_lp f 54 0 w (by decide) (by decide) (by decide) j
  have e0 : (0 : Int32).toInt = 0 := rfl
  show (lpX8_hold_2 f 54 0 w).2 j = _
  rw [h, e0]
  by_cases hj : j < 53
  · rw [if_pos (by omega), if_pos hj]
  · rw [if_neg (by omega), if_neg hj]
theorem lay_lp (fW : Nat → Int64) : ∀ (N : Nat) (i : Int32) (nf : Nat → Int64), 0 ≤ i.toInt → i.toInt ≤ 53 → i.toInt + N = 54 → ∀ j, (lpX8_layBack_2 fW N i nf).2 j = if i.toInt ≤ (j : Int) ∧ j < 53 then fW j else nf j
  | 0, i, nf, h0, h1, hN, j => by omega
  | N + 1, i, nf, h0, h1, hN, j => by
    have e : lpX8_layBack_2 fW (N + 1) i nf = if 53 ≤ i then (i, nf) else lpX8_layBack_2 fW N (i + 1) (vp_updL nf i.toNatClampNeg (fW i.toNatClampNeg)) := rfl
    have e53 : (53 : Int32).toInt = 53 := rfl
    rw [e]
    by_cases h : 53 ≤ i
    · rw [if_pos h]
      rw [il_le] at h
      rw [if_neg (by omega)]
    · rw [if_neg h]
      rw [il_le] at h
      have hi := kk_inc (x := i) (by omega)
      rw [lay_lp fW N (i + 1) _ (by omega) (by omega) (by omega), hi]
      have hc := kk_clN h0
      by_cases ej : j = i.toNatClampNeg
      · subst ej
        rw [if_neg (by omega), updL_eq, if_pos (by omega)]
      · rw [updL_ne ej]
        by_cases hj : i.toInt + 1 ≤ (j : Int) ∧ j < 53
        · rw [if_pos hj, if_pos (by omega)]
        · rw [if_neg hj, if_neg (by omega)]
/-- what was held is laid back: all is as it was -/
theorem lay_eq {f g w : Nat → Int64} (h : FR_ f g) : (fX8_layBack g (fX8_hold f w)).2 = f := by
  funext j
  have h1 := lay_lp (fX8_hold f w) 54 0 g (by decide) (by decide) (by decide) j
  have e0 : (0 : Int32).toInt = 0 := rfl
  show (lpX8_layBack_2 (fX8_hold f w) 54 0 g).2 j = _
  rw [h1, e0, hold_eq]
  by_cases hj : j < 53
  · rw [if_pos (by omega)]; exact if_pos hj
  · rw [if_neg (by omega)]; exact h j (by omega)
theorem lay_eq2 {f g w u : Nat → Int64} {v : Int32 × (Nat → Int64)} (e : v = fX8_layBack g u) (e2 : u = fX8_hold f w) (h : FR_ f g) : v.2 = f := by rw [e, e2]; exact lay_eq h
theorem lay_0 {g u : Nat → Int64} {v : Int32 × (Nat → Int64)} (e : v = fX8_layBack g u) : v.1 = 0 := by rw [e]; rfl
theorem beg_lp : ∀ (N : Nat) (i : Int32) (nf : Nat → Int64), 0 ≤ i.toInt → i.toInt ≤ 13 → i.toInt + N = 14 → ∀ j, (lpX8_beginsAt_2 N i nf).2 j = if i.toInt ≤ (j : Int) ∧ j < 13 then 0 else nf j
  | 0, i, nf, h0, h1, hN, j => by omega
  | N + 1, i, nf, h0, h1, hN, j => by
    have e : lpX8_beginsAt_2 (N + 1) i nf = if 13 ≤ i then (i, nf) else lpX8_beginsAt_2 N (i + 1) (vp_updL nf i.toNatClampNeg 0) := rfl
    have e13 : (13 : Int32).toInt = 13 := rfl
    rw [e]
    by_cases h : 13 ≤ i
    · rw [if_pos h]
      rw [il_le] at h
      rw [if_neg (by omega)]
    · rw [if_neg h]
      rw [il_le] at h
      have hi := kk_inc (x := i) (by omega)
      rw [beg_lp N (i + 1) _ (by omega) (by omega) (by omega), hi]
      have hc := kk_clN h0
      by_cases ej : j = i.toNatClampNeg
      · subst ej
        rw [if_neg (by omega), updL_eq, if_pos (by omega)]
      · rw [updL_ne ej]
        by_cases hj : i.toInt + 1 ≤ (j : Int) ∧ j < 13
        · rw [if_pos hj, if_pos (by omega)]
        · rw [if_neg hj, if_neg (by omega)]
theorem begAt_eq (p : Int64) (f : Nat → Int64) (j : Nat) : fX8_beginsAt p f j = if j = 4 then fX8_size p else if j = 0 then p else if j < 13 then 0 else f j := by
  have h := beg_lp 14 0 f (by decide) (by decide) (by decide) j
  have e0 : (0 : Int32).toInt = 0 := rfl
  show (if j = 4 then fX8_size p else if j = 0 then p else (lpX8_beginsAt_2 14 0 f).2 j) = _
  by_cases h4 : j = 4
  · rw [if_pos h4, if_pos h4]
  · rw [if_neg h4, if_neg h4]
    by_cases h0 : j = 0
    · rw [if_pos h0, if_pos h0]
    · rw [if_neg h0, if_neg h0, h, e0]
      by_cases hj : j < 13
      · rw [if_pos (by omega), if_pos hj]
      · rw [if_neg (by omega), if_neg hj]
theorem rests_eq (p : Int64) (f : Nat → Int64) (j : Nat) : fX8_restsAt p f j = if j = 5 then f 5 else if j = 0 then p else if j < 13 then 0 else f j := by
  show (if j = 5 then f 5 else if j = 4 then 0 else fX8_beginsAt p f j) = _
  by_cases h5 : j = 5
  · rw [if_pos h5, if_pos h5]
  · rw [if_neg h5, if_neg h5, begAt_eq]
    by_cases h4 : j = 4
    · subst h4; rfl
    · rw [if_neg h4, if_neg h4]
theorem rests_WN {p : Int64} {f g : Nat → Int64} (e : g = fX8_restsAt p f) (wn : WN_ f) (hp : -1000000 ≤ p.toInt ∧ p.toInt ≤ 1000000) : WN_ g ∧ FR_ f g ∧ (g 6).toInt = 0 := by
  subst e
  have hr : ∀ j, 13 ≤ j → fX8_restsAt p f j = f j := fun j hj => by rw [rests_eq, if_neg (by omega), if_neg (by omega), if_neg (by omega)]
  have h0 : fX8_restsAt p f 0 = p := rests_eq p f 0
  have h2 : fX8_restsAt p f 2 = 0 := rests_eq p f 2
  have h6 : fX8_restsAt p f 6 = 0 := rests_eq p f 6
  obtain ⟨w1, w2, w3, w4, w5, w6, w7, w8, w9, w10⟩ := wn
  refine ⟨?_, fun j hj => hr j (by omega), by rw [h6]; rfl⟩
  unfold WN_
  rw [h0, h2, h6, hr 61 (by decide), hr 122 (by decide), hr 53 (by decide), hr 56 (by decide), hr 57 (by decide), hr 60 (by decide), hr 54 (by decide)]
  exact ⟨w1, w2, by decide, by decide, w5, w6, w7, w8, hp, w10⟩
theorem post_b (r p : Int32) : 0 ≤ (fX8_postureOf r p).toInt ∧ (fX8_postureOf r p).toInt ≤ 9 := by
  unfold fX8_postureOf
  generalize lpX8_postureOf_4 p 6 4 r = z
  dsimp only
  split
  · decide
  · split <;> decide
theorem nw_wn {f g : Nat → Int64} (e : g = f) (h : WN_ f) : WN_ g := by rw [e]; exact h
theorem nw_tb {f g : Nat → Int64} {B : Int} (e : g = f) (h : (f 6).toInt ≤ B) : (g 6).toInt ≤ B := by rw [e]; exact h
theorem wy_wh {x w : Int32} (h : x = 0) : x = 1 → 0 ≤ w.toInt ∧ w.toInt ≤ 9 := fun e => absurd (h.symm.trans e) (by decide)
theorem two_wh {w : Int32} : (2 : Int32) = 1 → 0 ≤ w.toInt ∧ w.toInt ≤ 9 := fun e => absurd e (by decide)
theorem hd_X8_goOn : yX8_goOn.cls = RX8 ∧ yX8_goOn.cls ≠ "java/lang/invoke/MethodHandle" ∧ yX8_goOn.cls ≠ "java/lang/invoke/VarHandle" ∧ (parseMethodDescriptor yX8_goOn.desc).map (fun d => d.parameters.length) = some 1 := by decide +kernel
theorem hd_X8_hold : yX8_hold.cls = RX8 ∧ yX8_hold.cls ≠ "java/lang/invoke/MethodHandle" ∧ yX8_hold.cls ≠ "java/lang/invoke/VarHandle" ∧ (parseMethodDescriptor yX8_hold.desc).map (fun d => d.parameters.length) = some 0 := by decide +kernel
theorem hd_X8_layBack : yX8_layBack.cls = RX8 ∧ yX8_layBack.cls ≠ "java/lang/invoke/MethodHandle" ∧ yX8_layBack.cls ≠ "java/lang/invoke/VarHandle" ∧ (parseMethodDescriptor yX8_layBack.desc).map (fun d => d.parameters.length) = some 0 := by decide +kernel
theorem hd_X8_startRun : yX8_startRun.cls = RX8 ∧ yX8_startRun.cls ≠ "java/lang/invoke/MethodHandle" ∧ yX8_startRun.cls ≠ "java/lang/invoke/VarHandle" ∧ (parseMethodDescriptor yX8_startRun.desc).map (fun d => d.parameters.length) = some 0 := by decide +kernel
def fX8_run (p1 : Int32) (M_at : Int32) (M_fault : Int32) (M_valueMany : Int32) (M_signMany : Int32) (M_tells : Int64) (M_way : Int32) (M_wish : Int32) (M_moreTick : Int64) (M_moreForce : Int64) (fNw : Nat → Int64) (fVs : Nat → Int64) (fSg : Nat → Int32) (fWs : Nat → Int64) : Int32 × Int32 × Int32 × Int32 × Int64 × Int32 × Int32 × Int64 × Int64 × Int64 × Int64 × Int32 × (Nat → Int64) × (Nat → Int64) × (Nat → Int32) × (Nat → Int64) :=
  let u_1 : Nat → Int64 := fX8_hold fNw fWs
  let u_4 : Int32 × Int64 × Int64 × Int64 × Int64 × Int32 := fX8_startRun
  let u_7 : Int32 × Int32 × Int32 × Int32 × Int64 × Int32 × Int64 × Int64 × Int64 × Int64 × Int32 × (Nat → Int64) × (Nat → Int64) × (Nat → Int32) := fX8_goOn p1 M_at M_fault M_valueMany M_signMany M_tells M_way M_wish M_moreTick M_moreForce u_4.1 u_4.2.1 u_4.2.2.1 u_4.2.2.2.1 u_4.2.2.2.2.1 u_4.2.2.2.2.2 fNw fVs fSg
  let u_10 : Int32 × (Nat → Int64) := fX8_layBack u_7.2.2.2.2.2.2.2.2.2.2.2.1 u_1
  (u_7.1, u_7.2.1, u_7.2.2.1, u_7.2.2.2.1, u_7.2.2.2.2.1, u_10.1, u_7.2.2.2.2.2.1, u_7.2.2.2.2.2.2.1, u_7.2.2.2.2.2.2.2.1, u_7.2.2.2.2.2.2.2.2.1, u_7.2.2.2.2.2.2.2.2.2.1, u_7.2.2.2.2.2.2.2.2.2.2.1, u_10.2, u_7.2.2.2.2.2.2.2.2.2.2.2.2.1, u_7.2.2.2.2.2.2.2.2.2.2.2.2.2, u_1)

set_option maxHeartbeats 4000000 in
set_option maxRecDepth 100000 in
theorem c_X8_run (l : Launch) (G : va_G) (aM aNw aVs aSg aWs rM_kept rM_isKept rM_refused : Nat) (cNw cVs cSg cWs : ClassId) (p1 : Int32) (M_at : Int32) (M_fault : Int32) (M_valueMany : Int32) (M_signMany : Int32) (M_tells : Int64) (M_way : Int32) (M_wish : Int32) (M_moreTick : Int64) (M_moreForce : Int64) (M_runTurns : Int32) (M_runFirst : Int64) (M_runLast : Int64) (M_peak : Int64) (M_beside : Int64) (M_besideAt : Int32) (fNw : Nat → Int64) (fVs : Nat → Int64) (fSg : Nat → Int32) (fWs : Nat → Int64) (wn : WN_ fNw) (wh : M_way = 1 → 0 ≤ M_wish.toInt ∧ M_wish.toInt ≤ 9) (tb : (fNw 6).toInt ≤ 1000000000) (hn : p1.toInt ≤ 500) : kCv l yX8_run (Cond.code yX8_run cX8_run 2 none :: wsL_law) ({ frames := 6, cells := 0, slots := 0, locals := 149 }) G [(cNw, .long), (cVs, .long), (cSg, .int), (cWs, .long)] [.ref aM, .int p1] [(aM, .inr (8, [.ref aNw, .ref rM_kept, .ref rM_isKept, .ref rM_refused, .int M_at, .int M_fault, .ref aVs, .int M_valueMany, .ref aSg, .int M_signMany, .long M_tells, .int M_way, .int M_wish, .long M_moreTick, .long M_moreForce, .int M_runTurns, .long M_runFirst, .long M_runLast, .ref aWs, .long M_peak, .long M_beside, .int M_besideAt])), (aNw, .inl (cNw, 139, .inr (.inl fNw))), (aVs, .inl (cVs, 64, .inr (.inl fVs))), (aSg, .inl (cSg, 128, .inl fSg)), (aWs, .inl (cWs, 53, .inr (.inl fWs)))] (fun (u : Int32 × Int32 × Int32 × Int32 × Int64 × Int32 × Int32 × Int64 × Int64 × Int64 × Int64 × Int32 × (Nat → Int64) × (Nat → Int64) × (Nat → Int32) × (Nat → Int64)) => u = fX8_run p1 M_at M_fault M_valueMany M_signMany M_tells M_way M_wish M_moreTick M_moreForce fNw fVs fSg fWs ∧ (u.2.2.2.2.2.2.2.2.2.2.2.2.1 = fNw) ∧ ((u.2.2.2.2.2.1 : Int32) = 0)) (fun (u : Int32 × Int32 × Int32 × Int32 × Int64 × Int32 × Int32 × Int64 × Int64 × Int64 × Int64 × Int32 × (Nat → Int64) × (Nat → Int64) × (Nat → Int32) × (Nat → Int64)) => [(aM, .inr (8, [.ref aNw, .ref rM_kept, .ref rM_isKept, .ref rM_refused, .int u.1, .int u.2.1, .ref aVs, .int u.2.2.1, .ref aSg, .int u.2.2.2.1, .long u.2.2.2.2.1, .int u.2.2.2.2.2.1, .int M_wish, .long M_moreTick, .long M_moreForce, .int u.2.2.2.2.2.2.1, .long u.2.2.2.2.2.2.2.1, .long u.2.2.2.2.2.2.2.2.1, .ref aWs, .long u.2.2.2.2.2.2.2.2.2.1, .long u.2.2.2.2.2.2.2.2.2.2.1, .int u.2.2.2.2.2.2.2.2.2.2.2.1])), (aNw, .inl (cNw, 139, .inr (.inl u.2.2.2.2.2.2.2.2.2.2.2.2.1))), (aVs, .inl (cVs, 64, .inr (.inl u.2.2.2.2.2.2.2.2.2.2.2.2.2.1))), (aSg, .inl (cSg, 128, .inl u.2.2.2.2.2.2.2.2.2.2.2.2.2.2.1)), (aWs, .inl (cWs, 53, .inr (.inl u.2.2.2.2.2.2.2.2.2.2.2.2.2.2.2)))]) := by
  intro sz
  refine Met.ofW (cc := cX8_run) (maxL := 2) (ret := none) (by decide) rfl ?_
  intro p e s m args below meth c s₁ B hml hv
  obtain ⟨rfl, hv⟩ := hv
  obtain ⟨rfl, hK, hq, hA⟩ := kk_begin hv
  have hx := B.exec
  have hb := B.bytes
  have hr := B.returns
  have hts := atoms_spec (ws := (Cond.code yX8_run cX8_run 2 none :: wsL_law)) B.pre
  have hown : s.vm.findClass RX8 = some m.cls := findClass_of_methodNamed B.named
  have hlocks := B.notSynchronized
  have hsb : ∀ w ∈ wsL_law, w ∈ (Cond.code yX8_run cX8_run 2 none :: wsL_law) := fun _ h => List.mem_cons_of_mem _ h
  generalize va_A [(aM, .inr (8, [.ref aNw, .ref rM_kept, .ref rM_isKept, .ref rM_refused, .int M_at, .int M_fault, .ref aVs, .int M_valueMany, .ref aSg, .int M_signMany, .long M_tells, .int M_way, .int M_wish, .long M_moreTick, .long M_moreForce, .int M_runTurns, .long M_runFirst, .long M_runLast, .ref aWs, .long M_peak, .long M_beside, .int M_besideAt])), (aNw, .inl (cNw, 139, .inr (.inl fNw))), (aVs, .inl (cVs, 64, .inr (.inl fVs))), (aSg, .inl (cSg, 128, .inl fSg)), (aWs, .inl (cWs, 53, .inr (.inl fWs)))] s.heap.size = A at hq hA ⊢
  have hl := lv_entry ([.ref aM, .int p1]) (n := 2) (Nat.le_of_ble_eq_true rfl)
  rw [lg_entry_eq]
  generalize (lg_sl ([.ref aM, .int p1]) ++ List.replicate (2 - (lg_sl ([.ref aM, .int p1])).length) Slot.unset).toArray = ls at hl ⊢
  have hl : lv_has ls 2 [(0, .ref aM), (1, .int p1)] := hl
  refine lv_aload_n hx hb dX8_run_0 rfl (lv_at hl 0 rfl) ?_
  refine kk_Vv (As := []) (rest := []) (wr := [(aVs, .inl (cVs, 64, .inr (.inl fVs))), (aSg, .inl (cSg, 128, .inl fSg))]) ⟨hx, hb, hml, hown, hts⟩ (c_X8_hold l G aM aNw aWs rM_kept rM_isKept rM_refused aVs aSg cNw cWs M_at M_fault M_valueMany M_signMany M_tells M_way M_wish M_moreTick M_moreForce M_runTurns M_runFirst M_runLast M_peak M_beside M_besideAt fNw fWs) (kk_cwV 0 hts hsb wd_631 wd_632 wd_633 wd_5 wd_634 rfl rfl hd_X8_hold ⟨Nat.le_of_ble_eq_true rfl, Nat.le_of_ble_eq_true rfl⟩) hA hK hq [0, 1, 4] [2, 3] [0, 3] rfl rfl rfl (by decide) (by decide) (by decide) 0 8 rfl rfl rfl rfl hl.1 rfl (Nat.le_of_ble_eq_true rfl) dX8_run_1 ⟨Nat.zero_le _, Nat.zero_le _⟩ (fun u_1 H locs h_3 hq => ?_)
  have eu_1 := h_3
  have hq : kAt G A s [(aVs, .inl (cVs, 64, .inr (.inl fVs))), (aSg, .inl (cSg, 128, .inl fSg)), (aM, .inr (8, [.ref aNw, .ref rM_kept, .ref rM_isKept, .ref rM_refused, .int M_at, .int M_fault, .ref aVs, .int M_valueMany, .ref aSg, .int M_signMany, .long M_tells, .int M_way, .int M_wish, .long M_moreTick, .long M_moreForce, .int M_runTurns, .long M_runFirst, .long M_runLast, .ref aWs, .long M_peak, .long M_beside, .int M_besideAt])), (aNw, .inl (cNw, 139, .inr (.inl fNw))), (aWs, .inl (cWs, 53, .inr (.inl u_1)))] H locs := hq
  have hh0 := eu_1
  refine lv_aload_n hx hb dX8_run_4 rfl (lv_at hl 0 rfl) ?_
  refine kk_Vv (As := []) (rest := []) (wr := [(aVs, .inl (cVs, 64, .inr (.inl fVs))), (aSg, .inl (cSg, 128, .inl fSg)), (aNw, .inl (cNw, 139, .inr (.inl fNw))), (aWs, .inl (cWs, 53, .inr (.inl u_1)))]) ⟨hx, hb, hml, hown, hts⟩ (c_X8_startRun l G aM aNw rM_kept rM_isKept rM_refused aVs aSg aWs M_at M_fault M_valueMany M_signMany M_tells M_way M_wish M_moreTick M_moreForce M_runTurns M_runFirst M_runLast M_peak M_beside M_besideAt) (kk_cwV 0 hts hsb wd_635 wd_636 wd_637 wd_5 wd_638 rfl rfl hd_X8_startRun ⟨Nat.le_of_ble_eq_true rfl, Nat.le_of_ble_eq_true rfl⟩) hA hK hq [2] [0, 1, 3, 4] [] rfl rfl rfl (by decide) (by decide) (by decide) 0 8 rfl rfl rfl rfl hl.1 rfl (Nat.le_of_ble_eq_true rfl) dX8_run_5 ⟨Nat.zero_le _, Nat.zero_le _⟩ (fun u_4 H locs h_6 hq => ?_)
  have eu_4 := h_6
  have hq : kAt G A s [(aVs, .inl (cVs, 64, .inr (.inl fVs))), (aSg, .inl (cSg, 128, .inl fSg)), (aNw, .inl (cNw, 139, .inr (.inl fNw))), (aWs, .inl (cWs, 53, .inr (.inl u_1))), (aM, .inr (8, [.ref aNw, .ref rM_kept, .ref rM_isKept, .ref rM_refused, .int M_at, .int M_fault, .ref aVs, .int M_valueMany, .ref aSg, .int M_signMany, .long M_tells, .int M_way, .int M_wish, .long M_moreTick, .long M_moreForce, .int u_4.1, .long u_4.2.1, .long u_4.2.2.1, .ref aWs, .long u_4.2.2.2.1, .long u_4.2.2.2.2.1, .int u_4.2.2.2.2.2]))] H locs := hq
  refine lv_aload_n hx hb dX8_run_8 rfl (lv_at hl 0 rfl) ?_
  refine lv_iload_n hx hb dX8_run_9 rfl (lv_at hl 1 rfl) ?_
  refine kk_Vv (As := [.int p1]) (rest := []) (wr := [(aWs, .inl (cWs, 53, .inr (.inl u_1)))]) ⟨hx, hb, hml, hown, hts⟩ (c_X8_goOn l G aM aNw aVs aSg rM_kept rM_isKept rM_refused aWs cNw cVs cSg p1 M_at M_fault M_valueMany M_signMany M_tells M_way M_wish M_moreTick M_moreForce u_4.1 u_4.2.1 u_4.2.2.1 u_4.2.2.2.1 u_4.2.2.2.2.1 u_4.2.2.2.2.2 fNw fVs fSg wn wh tb hn) (kk_cwV 1 hts hsb wd_641 wd_642 wd_643 wd_5 wd_644 rfl rfl hd_X8_goOn ⟨Nat.le_of_ble_eq_true rfl, Nat.le_of_ble_eq_true rfl⟩) hA hK hq [4, 2, 0, 1] [3] [0, 1, 2] rfl rfl rfl (by decide) (by decide) (by decide) 0 8 rfl rfl rfl rfl hl.1 rfl (Nat.le_of_ble_eq_true rfl) dX8_run_10 ⟨Nat.zero_le _, Nat.zero_le _⟩ (fun u_7 H locs h_9 hq => ?_)
  obtain ⟨eu_7, wn_u_7, t6_u_7, fr_u_7⟩ := h_9
  have hq : kAt G A s [(aWs, .inl (cWs, 53, .inr (.inl u_1))), (aM, .inr (8, [.ref aNw, .ref rM_kept, .ref rM_isKept, .ref rM_refused, .int u_7.1, .int u_7.2.1, .ref aVs, .int u_7.2.2.1, .ref aSg, .int u_7.2.2.2.1, .long u_7.2.2.2.2.1, .int M_way, .int M_wish, .long M_moreTick, .long M_moreForce, .int u_7.2.2.2.2.2.1, .long u_7.2.2.2.2.2.2.1, .long u_7.2.2.2.2.2.2.2.1, .ref aWs, .long u_7.2.2.2.2.2.2.2.2.1, .long u_7.2.2.2.2.2.2.2.2.2.1, .int u_7.2.2.2.2.2.2.2.2.2.2.1])), (aNw, .inl (cNw, 139, .inr (.inl u_7.2.2.2.2.2.2.2.2.2.2.2.1))), (aVs, .inl (cVs, 64, .inr (.inl u_7.2.2.2.2.2.2.2.2.2.2.2.2.1))), (aSg, .inl (cSg, 128, .inl u_7.2.2.2.2.2.2.2.2.2.2.2.2.2))] H locs := hq
  have frg := fr_u_7
  have wng := wn_u_7
  have tg := t6_u_7
  refine lv_aload_n hx hb dX8_run_13 rfl (lv_at hl 0 rfl) ?_
  refine kk_Vv (As := []) (rest := []) (wr := [(aVs, .inl (cVs, 64, .inr (.inl u_7.2.2.2.2.2.2.2.2.2.2.2.2.1))), (aSg, .inl (cSg, 128, .inl u_7.2.2.2.2.2.2.2.2.2.2.2.2.2))]) ⟨hx, hb, hml, hown, hts⟩ (c_X8_layBack l G aM aNw aWs rM_kept rM_isKept rM_refused aVs aSg cNw cWs u_7.1 u_7.2.1 u_7.2.2.1 u_7.2.2.2.1 u_7.2.2.2.2.1 M_way M_wish M_moreTick M_moreForce u_7.2.2.2.2.2.1 u_7.2.2.2.2.2.2.1 u_7.2.2.2.2.2.2.2.1 u_7.2.2.2.2.2.2.2.2.1 u_7.2.2.2.2.2.2.2.2.2.1 u_7.2.2.2.2.2.2.2.2.2.2.1 u_7.2.2.2.2.2.2.2.2.2.2.2.1 u_1) (kk_cwV 0 hts hsb wd_645 wd_646 wd_647 wd_5 wd_648 rfl rfl hd_X8_layBack ⟨Nat.le_of_ble_eq_true rfl, Nat.le_of_ble_eq_true rfl⟩) hA hK hq [1, 2, 0] [3, 4] [0, 3] rfl rfl rfl (by decide) (by decide) (by decide) 0 8 rfl rfl rfl rfl hl.1 rfl (Nat.le_of_ble_eq_true rfl) dX8_run_14 ⟨Nat.zero_le _, Nat.zero_le _⟩ (fun u_10 H locs h_12 hq => ?_)
  have eu_10 := h_12
  have hq : kAt G A s [(aVs, .inl (cVs, 64, .inr (.inl u_7.2.2.2.2.2.2.2.2.2.2.2.2.1))), (aSg, .inl (cSg, 128, .inl u_7.2.2.2.2.2.2.2.2.2.2.2.2.2)), (aM, .inr (8, [.ref aNw, .ref rM_kept, .ref rM_isKept, .ref rM_refused, .int u_7.1, .int u_7.2.1, .ref aVs, .int u_7.2.2.1, .ref aSg, .int u_7.2.2.2.1, .long u_7.2.2.2.2.1, .int u_10.1, .int M_wish, .long M_moreTick, .long M_moreForce, .int u_7.2.2.2.2.2.1, .long u_7.2.2.2.2.2.2.1, .long u_7.2.2.2.2.2.2.2.1, .ref aWs, .long u_7.2.2.2.2.2.2.2.2.1, .long u_7.2.2.2.2.2.2.2.2.2.1, .int u_7.2.2.2.2.2.2.2.2.2.2.1])), (aNw, .inl (cNw, 139, .inr (.inl u_10.2))), (aWs, .inl (cWs, 53, .inr (.inl u_1)))] H locs := hq
  have nwz := lay_eq2 eu_10 hh0 frg
  have wyz := lay_0 eu_10
  have hf : ((u_7.1, u_7.2.1, u_7.2.2.1, u_7.2.2.2.1, u_7.2.2.2.2.1, u_10.1, u_7.2.2.2.2.2.1, u_7.2.2.2.2.2.2.1, u_7.2.2.2.2.2.2.2.1, u_7.2.2.2.2.2.2.2.2.1, u_7.2.2.2.2.2.2.2.2.2.1, u_7.2.2.2.2.2.2.2.2.2.2.1, u_10.2, u_7.2.2.2.2.2.2.2.2.2.2.2.2.1, u_7.2.2.2.2.2.2.2.2.2.2.2.2.2, u_1) : Int32 × Int32 × Int32 × Int32 × Int64 × Int32 × Int32 × Int64 × Int64 × Int64 × Int64 × Int32 × (Nat → Int64) × (Nat → Int64) × (Nat → Int32) × (Nat → Int64)) = fX8_run p1 M_at M_fault M_valueMany M_signMany M_tells M_way M_wish M_moreTick M_moreForce fNw fVs fSg fWs := by
    exact ((congrArg (fun (u_1 : Nat → Int64) => ((let u_4 : Int32 × Int64 × Int64 × Int64 × Int64 × Int32 := fX8_startRun
  let u_7 : Int32 × Int32 × Int32 × Int32 × Int64 × Int32 × Int64 × Int64 × Int64 × Int64 × Int32 × (Nat → Int64) × (Nat → Int64) × (Nat → Int32) := fX8_goOn p1 M_at M_fault M_valueMany M_signMany M_tells M_way M_wish M_moreTick M_moreForce u_4.1 u_4.2.1 u_4.2.2.1 u_4.2.2.2.1 u_4.2.2.2.2.1 u_4.2.2.2.2.2 fNw fVs fSg
  let u_10 : Int32 × (Nat → Int64) := fX8_layBack u_7.2.2.2.2.2.2.2.2.2.2.2.1 u_1
  (u_7.1, u_7.2.1, u_7.2.2.1, u_7.2.2.2.1, u_7.2.2.2.2.1, u_10.1, u_7.2.2.2.2.2.1, u_7.2.2.2.2.2.2.1, u_7.2.2.2.2.2.2.2.1, u_7.2.2.2.2.2.2.2.2.1, u_7.2.2.2.2.2.2.2.2.2.1, u_7.2.2.2.2.2.2.2.2.2.2.1, u_10.2, u_7.2.2.2.2.2.2.2.2.2.2.2.2.1, u_7.2.2.2.2.2.2.2.2.2.2.2.2.2, u_1)) : Int32 × Int32 × Int32 × Int32 × Int64 × Int32 × Int32 × Int64 × Int64 × Int64 × Int64 × Int32 × (Nat → Int64) × (Nat → Int64) × (Nat → Int32) × (Nat → Int64))) eu_1.symm).trans ((congrArg (fun (u_4 : Int32 × Int64 × Int64 × Int64 × Int64 × Int32) => ((let u_7 : Int32 × Int32 × Int32 × Int32 × Int64 × Int32 × Int64 × Int64 × Int64 × Int64 × Int32 × (Nat → Int64) × (Nat → Int64) × (Nat → Int32) := fX8_goOn p1 M_at M_fault M_valueMany M_signMany M_tells M_way M_wish M_moreTick M_moreForce u_4.1 u_4.2.1 u_4.2.2.1 u_4.2.2.2.1 u_4.2.2.2.2.1 u_4.2.2.2.2.2 fNw fVs fSg
  let u_10 : Int32 × (Nat → Int64) := fX8_layBack u_7.2.2.2.2.2.2.2.2.2.2.2.1 u_1
  (u_7.1, u_7.2.1, u_7.2.2.1, u_7.2.2.2.1, u_7.2.2.2.2.1, u_10.1, u_7.2.2.2.2.2.1, u_7.2.2.2.2.2.2.1, u_7.2.2.2.2.2.2.2.1, u_7.2.2.2.2.2.2.2.2.1, u_7.2.2.2.2.2.2.2.2.2.1, u_7.2.2.2.2.2.2.2.2.2.2.1, u_10.2, u_7.2.2.2.2.2.2.2.2.2.2.2.2.1, u_7.2.2.2.2.2.2.2.2.2.2.2.2.2, u_1)) : Int32 × Int32 × Int32 × Int32 × Int64 × Int32 × Int32 × Int64 × Int64 × Int64 × Int64 × Int32 × (Nat → Int64) × (Nat → Int64) × (Nat → Int32) × (Nat → Int64))) eu_4.symm).trans ((congrArg (fun (u_7 : Int32 × Int32 × Int32 × Int32 × Int64 × Int32 × Int64 × Int64 × Int64 × Int64 × Int32 × (Nat → Int64) × (Nat → Int64) × (Nat → Int32)) => ((let u_10 : Int32 × (Nat → Int64) := fX8_layBack u_7.2.2.2.2.2.2.2.2.2.2.2.1 u_1
  (u_7.1, u_7.2.1, u_7.2.2.1, u_7.2.2.2.1, u_7.2.2.2.2.1, u_10.1, u_7.2.2.2.2.2.1, u_7.2.2.2.2.2.2.1, u_7.2.2.2.2.2.2.2.1, u_7.2.2.2.2.2.2.2.2.1, u_7.2.2.2.2.2.2.2.2.2.1, u_7.2.2.2.2.2.2.2.2.2.2.1, u_10.2, u_7.2.2.2.2.2.2.2.2.2.2.2.2.1, u_7.2.2.2.2.2.2.2.2.2.2.2.2.2, u_1)) : Int32 × Int32 × Int32 × Int32 × Int64 × Int32 × Int32 × Int64 × Int64 × Int64 × Int64 × Int32 × (Nat → Int64) × (Nat → Int64) × (Nat → Int32) × (Nat → Int64))) eu_7.symm).trans ((congrArg (fun (u_10 : Int32 × (Nat → Int64)) => (((u_7.1, u_7.2.1, u_7.2.2.1, u_7.2.2.2.1, u_7.2.2.2.2.1, u_10.1, u_7.2.2.2.2.2.1, u_7.2.2.2.2.2.2.1, u_7.2.2.2.2.2.2.2.1, u_7.2.2.2.2.2.2.2.2.1, u_7.2.2.2.2.2.2.2.2.2.1, u_7.2.2.2.2.2.2.2.2.2.2.1, u_10.2, u_7.2.2.2.2.2.2.2.2.2.2.2.2.1, u_7.2.2.2.2.2.2.2.2.2.2.2.2.2, u_1)) : Int32 × Int32 × Int32 × Int32 × Int64 × Int32 × Int32 × Int64 × Int64 × Int64 × Int64 × Int32 × (Nat → Int64) × (Nat → Int64) × (Nat → Int32) × (Nat → Int64))) eu_10.symm))))).symm
  have en_0 : u_10.2 = fNw := by first | assumption | omega
  have en_1 : (u_10.1 : Int32) = 0 := by first | assumption | omega
  exact kk_ev hx hb hr hlocks hK hq [2, 3, 0, 1, 4] (u_7.1, u_7.2.1, u_7.2.2.1, u_7.2.2.2.1, u_7.2.2.2.2.1, u_10.1, u_7.2.2.2.2.2.1, u_7.2.2.2.2.2.2.1, u_7.2.2.2.2.2.2.2.1, u_7.2.2.2.2.2.2.2.2.1, u_7.2.2.2.2.2.2.2.2.2.1, u_7.2.2.2.2.2.2.2.2.2.2.1, u_10.2, u_7.2.2.2.2.2.2.2.2.2.2.2.2.1, u_7.2.2.2.2.2.2.2.2.2.2.2.2.2, u_1) rfl (by decide) dX8_run_17 ⟨hf, en_0, en_1⟩
theorem hd_X8_isRun : yX8_isRun.cls ≠ "java/lang/invoke/MethodHandle" ∧ yX8_isRun.cls ≠ "java/lang/invoke/VarHandle" ∧ (parseMethodDescriptor yX8_isRun.desc).map (fun d => d.parameters.length) = some 1 := by decide +kernel
theorem run8_le {n : Int32} (h : ¬ fX8_isRun n = 0) : 1 ≤ n.toInt ∧ n.toInt ≤ 500 := in_i (x := n) (a := 1) (b := 500) h
def lpX8_tick_16 (p1 : Int32) (M_way : Int32) (M_wish : Int32) (M_moreTick : Int64) (M_moreForce : Int64) : Nat → Int32 → Int32 → Int32 → Int32 → Int32 → Int64 → Int32 → Int64 → Int64 → (Nat → Int64) → (Nat → Int64) → (Nat → Int32) → Int32 × Int32 × Int32 × Int32 × Int32 × Int64 × Int32 × Int64 × Int64 × (Nat → Int64) × (Nat → Int64) × (Nat → Int32)
  | 0, _, _, _, _, _, _, _, _, _, _, _, _ => (0, 0, 0, 0, 0, 0, 0, 0, 0, fun _ => 0, fun _ => 0, fun _ => 0)
  | N + 1, i, at_, fl, vn, sm, te, rt, rf, rl, nf, vf, sf =>
    if p1 ≤ i then (
    (i, at_, fl, vn, sm, te, rt, rf, rl, nf, vf, sf))
    else (
    let u_6 : Int32 × Int32 × Int32 × Int32 × Int64 × Int32 × Int64 × Int64 × (Nat → Int64) × (Nat → Int64) × (Nat → Int32) := fX8_tickOnce at_ fl vn sm te M_way M_wish M_moreTick M_moreForce rt rf rl nf vf sf
    lpX8_tick_16 p1 M_way M_wish M_moreTick M_moreForce N (i + 1) u_6.1 u_6.2.1 u_6.2.2.1 u_6.2.2.2.1 u_6.2.2.2.2.1 u_6.2.2.2.2.2.1 u_6.2.2.2.2.2.2.1 u_6.2.2.2.2.2.2.2.1 u_6.2.2.2.2.2.2.2.2.1 u_6.2.2.2.2.2.2.2.2.2.1 u_6.2.2.2.2.2.2.2.2.2.2)

def fX8_tick (p1 : Int32) (M_at : Int32) (M_fault : Int32) (M_valueMany : Int32) (M_signMany : Int32) (M_tells : Int64) (M_way : Int32) (M_wish : Int32) (M_moreTick : Int64) (M_moreForce : Int64) (M_runTurns : Int32) (M_runFirst : Int64) (M_runLast : Int64) (fNw : Nat → Int64) (fVs : Nat → Int64) (fSg : Nat → Int32) (fRf : Nat → Int32) : Int32 × Int32 × Int32 × Int32 × Int32 × Int64 × Int32 × Int64 × Int64 × (Nat → Int64) × (Nat → Int64) × (Nat → Int32) × (Nat → Int32) :=
  let r_2 : Int32 := fX8_isRun p1
  if r_2 = 0 then (
    let r_14 : Int32 := (fX8_bad (-2) fRf).1
    let u_13 : Nat → Int32 := (fX8_bad (-2) fRf).2
    (r_14, M_at, M_fault, M_valueMany, M_signMany, M_tells, M_runTurns, M_runFirst, M_runLast, fNw, fVs, fSg, u_13))
  else (
    let z_8 : Int32 × Int32 × Int32 × Int32 × Int32 × Int64 × Int32 × Int64 × Int64 × (Nat → Int64) × (Nat → Int64) × (Nat → Int32) := lpX8_tick_16 p1 M_way M_wish M_moreTick M_moreForce (501) 0 M_at M_fault M_valueMany M_signMany M_tells M_runTurns M_runFirst M_runLast fNw fVs fSg
    ((z_8.2.2.2.2.2.2.2.2.2.1 4).toInt32, z_8.2.1, z_8.2.2.1, z_8.2.2.2.1, z_8.2.2.2.2.1, z_8.2.2.2.2.2.1, z_8.2.2.2.2.2.2.1, z_8.2.2.2.2.2.2.2.1, z_8.2.2.2.2.2.2.2.2.1, z_8.2.2.2.2.2.2.2.2.2.1, z_8.2.2.2.2.2.2.2.2.2.2.1, z_8.2.2.2.2.2.2.2.2.2.2.2, fRf))

set_option maxHeartbeats 4000000 in
set_option maxRecDepth 100000 in
theorem c_X8_tick (l : Launch) (G : va_G) (aM aNw aVs aSg aRf rM_kept rM_isKept rM_was : Nat) (cNw cVs cSg cRf : ClassId) (p1 : Int32) (M_at : Int32) (M_fault : Int32) (M_valueMany : Int32) (M_signMany : Int32) (M_tells : Int64) (M_way : Int32) (M_wish : Int32) (M_moreTick : Int64) (M_moreForce : Int64) (M_runTurns : Int32) (M_runFirst : Int64) (M_runLast : Int64) (M_peak : Int64) (M_beside : Int64) (M_besideAt : Int32) (fNw : Nat → Int64) (fVs : Nat → Int64) (fSg : Nat → Int32) (fRf : Nat → Int32) (wn : WN_ fNw) (wh : M_way = 1 → 0 ≤ M_wish.toInt ∧ M_wish.toInt ≤ 9) (tb : (fNw 6).toInt ≤ 1000000000) : kCi l yX8_tick (Cond.code yX8_tick cX8_tick 3 (some .int) :: wsL_law) ({ frames := 5, cells := 0, slots := 0, locals := 127 }) G [(cNw, .long), (cVs, .long), (cSg, .int), (cRf, .int)] [.ref aM, .int p1] [(aM, .inr (8, [.ref aNw, .ref rM_kept, .ref rM_isKept, .ref aRf, .int M_at, .int M_fault, .ref aVs, .int M_valueMany, .ref aSg, .int M_signMany, .long M_tells, .int M_way, .int M_wish, .long M_moreTick, .long M_moreForce, .int M_runTurns, .long M_runFirst, .long M_runLast, .ref rM_was, .long M_peak, .long M_beside, .int M_besideAt])), (aNw, .inl (cNw, 139, .inr (.inl fNw))), (aVs, .inl (cVs, 64, .inr (.inl fVs))), (aSg, .inl (cSg, 128, .inl fSg)), (aRf, .inl (cRf, 3, .inl fRf))] (fun (r : Int32) (u : Int32 × Int32 × Int32 × Int32 × Int64 × Int32 × Int64 × Int64 × (Nat → Int64) × (Nat → Int64) × (Nat → Int32) × (Nat → Int32)) => r = (fX8_tick p1 M_at M_fault M_valueMany M_signMany M_tells M_way M_wish M_moreTick M_moreForce M_runTurns M_runFirst M_runLast fNw fVs fSg fRf).1 ∧ u = (fX8_tick p1 M_at M_fault M_valueMany M_signMany M_tells M_way M_wish M_moreTick M_moreForce M_runTurns M_runFirst M_runLast fNw fVs fSg fRf).2 ∧ (WN_ u.2.2.2.2.2.2.2.2.1) ∧ ((u.2.2.2.2.2.2.2.2.1 6).toInt ≤ (fNw 6).toInt + 501) ∧ (FR_ fNw u.2.2.2.2.2.2.2.2.1)) (fun (u : Int32 × Int32 × Int32 × Int32 × Int64 × Int32 × Int64 × Int64 × (Nat → Int64) × (Nat → Int64) × (Nat → Int32) × (Nat → Int32)) => [(aM, .inr (8, [.ref aNw, .ref rM_kept, .ref rM_isKept, .ref aRf, .int u.1, .int u.2.1, .ref aVs, .int u.2.2.1, .ref aSg, .int u.2.2.2.1, .long u.2.2.2.2.1, .int M_way, .int M_wish, .long M_moreTick, .long M_moreForce, .int u.2.2.2.2.2.1, .long u.2.2.2.2.2.2.1, .long u.2.2.2.2.2.2.2.1, .ref rM_was, .long M_peak, .long M_beside, .int M_besideAt])), (aNw, .inl (cNw, 139, .inr (.inl u.2.2.2.2.2.2.2.2.1))), (aVs, .inl (cVs, 64, .inr (.inl u.2.2.2.2.2.2.2.2.2.1))), (aSg, .inl (cSg, 128, .inl u.2.2.2.2.2.2.2.2.2.2.1)), (aRf, .inl (cRf, 3, .inl u.2.2.2.2.2.2.2.2.2.2.2))]) := by
  intro sz
  refine Met.ofW (cc := cX8_tick) (maxL := 3) (ret := (some .int)) (by decide) rfl ?_
  intro p e s m args below meth c s₁ B hml hv
  obtain ⟨rfl, hv⟩ := hv
  obtain ⟨rfl, hK, hq, hA⟩ := kk_begin hv
  have hx := B.exec
  have hb := B.bytes
  have hr := B.returns
  have hts := atoms_spec (ws := (Cond.code yX8_tick cX8_tick 3 (some .int) :: wsL_law)) B.pre
  have hown : s.vm.findClass RX8 = some m.cls := findClass_of_methodNamed B.named
  have hlocks := B.notSynchronized
  have hsb : ∀ w ∈ wsL_law, w ∈ (Cond.code yX8_tick cX8_tick 3 (some .int) :: wsL_law) := fun _ h => List.mem_cons_of_mem _ h
  generalize va_A [(aM, .inr (8, [.ref aNw, .ref rM_kept, .ref rM_isKept, .ref aRf, .int M_at, .int M_fault, .ref aVs, .int M_valueMany, .ref aSg, .int M_signMany, .long M_tells, .int M_way, .int M_wish, .long M_moreTick, .long M_moreForce, .int M_runTurns, .long M_runFirst, .long M_runLast, .ref rM_was, .long M_peak, .long M_beside, .int M_besideAt])), (aNw, .inl (cNw, 139, .inr (.inl fNw))), (aVs, .inl (cVs, 64, .inr (.inl fVs))), (aSg, .inl (cSg, 128, .inl fSg)), (aRf, .inl (cRf, 3, .inl fRf))] s.heap.size = A at hq hA ⊢
  have iX8 : ∀ w ∈ u_ws RX8 TX8 22, w ∈ (Cond.code yX8_tick cX8_tick 3 (some .int) :: wsL_law) := fun w h => hsb w (bin_X8 w h)
  have lk0_ := hts _ (hsb _ wd_117)
  have hl := lv_entry ([.ref aM, .int p1]) (n := 3) (Nat.le_of_ble_eq_true rfl)
  rw [lg_entry_eq]
  generalize (lg_sl ([.ref aM, .int p1]) ++ List.replicate (3 - (lg_sl ([.ref aM, .int p1])).length) Slot.unset).toArray = ls at hl ⊢
  have hl : lv_has ls 3 [(0, .ref aM), (1, .int p1)] := hl
  refine lv_iload_n hx hb dX8_tick_0 rfl (lv_at hl 1 rfl) ?_
  refine kk_Si (As := [.int p1]) (rest := []) (wr := [(aM, .inr (8, [.ref aNw, .ref rM_kept, .ref rM_isKept, .ref aRf, .int M_at, .int M_fault, .ref aVs, .int M_valueMany, .ref aSg, .int M_signMany, .long M_tells, .int M_way, .int M_wish, .long M_moreTick, .long M_moreForce, .int M_runTurns, .long M_runFirst, .long M_runLast, .ref rM_was, .long M_peak, .long M_beside, .int M_besideAt])), (aNw, .inl (cNw, 139, .inr (.inl fNw))), (aVs, .inl (cVs, 64, .inr (.inl fVs))), (aSg, .inl (cSg, 128, .inl fSg)), (aRf, .inl (cRf, 3, .inl fRf))]) ⟨hx, hb, hml, hown, hts⟩ (c_X8_isRun l G p1) (kk_cwS 1 hts hsb wd_536 wd_537 wd_5 wd_538 rfl rfl hd_X8_isRun ⟨Nat.le_of_ble_eq_true rfl, Nat.le_of_ble_eq_true rfl⟩) hA hK hq [] [0, 1, 2, 3, 4] [] rfl rfl rfl (by decide) (by decide) (by decide) rfl hl.1 rfl (Nat.le_of_ble_eq_true rfl) dX8_tick_1 ⟨Nat.zero_le _, Nat.zero_le _⟩ (fun r_2 u_1 H locs h_3 hq => ?_)
  obtain ⟨er_2, zr_2⟩ := h_3
  have hq : kAt G A s [(aM, .inr (8, [.ref aNw, .ref rM_kept, .ref rM_isKept, .ref aRf, .int M_at, .int M_fault, .ref aVs, .int M_valueMany, .ref aSg, .int M_signMany, .long M_tells, .int M_way, .int M_wish, .long M_moreTick, .long M_moreForce, .int M_runTurns, .long M_runFirst, .long M_runLast, .ref rM_was, .long M_peak, .long M_beside, .int M_besideAt])), (aNw, .inl (cNw, 139, .inr (.inl fNw))), (aVs, .inl (cVs, 64, .inr (.inl fVs))), (aSg, .inl (cSg, 128, .inl fSg)), (aRf, .inl (cRf, 3, .inl fRf))] H locs := hq
  have hrun := er_2
  refine lv_if_ne (tgt := 14) hx hb dX8_tick_4 (by decide) (fun c_4 => ?_) (fun c_4 => ?_)
  · skip
    have hn := run8_le (hrun ▸ c_4)
    refine lv_iconst (v := 0) hx hb dX8_tick_14 (by decide) ?_
    refine lv_istore_n (lv' := [(2, .int 0), (0, .ref aM), (1, .int p1)]) hx hb dX8_tick_15 rfl hl (by decide) rfl (fun ls hl => ?_)
    refine kk_loop12 (fun N16 (i : Int32) (at_ : Int32) (fl : Int32) (vn : Int32) (sm : Int32) (te : Int64) (rt : Int32) (rf : Int64) (rl : Int64) (nf : Nat → Int64) (vf : Nat → Int64) (sf : Nat → Int32) (H : Heap) (locs : List Loc) (ls : Array Slot) => lpX8_tick_16 p1 M_way M_wish M_moreTick M_moreForce (501) 0 M_at M_fault M_valueMany M_signMany M_tells M_runTurns M_runFirst M_runLast fNw fVs fSg = lpX8_tick_16 p1 M_way M_wish M_moreTick M_moreForce N16 i at_ fl vn sm te rt rf rl nf vf sf ∧ (0 ≤ i.toInt) ∧ (i.toInt ≤ 500) ∧ (i.toInt + N16 = 501) ∧ (WN_ nf) ∧ ((nf 6).toInt + N16 ≤ (fNw 6).toInt + 501) ∧ (FR_ fNw nf) ∧ lv_has ls 3 [(2, .int i), (0, .ref aM), (1, .int p1)] ∧ kAt G A s [(aM, .inr (8, [.ref aNw, .ref rM_kept, .ref rM_isKept, .ref aRf, .int at_, .int fl, .ref aVs, .int vn, .ref aSg, .int sm, .long te, .int M_way, .int M_wish, .long M_moreTick, .long M_moreForce, .int rt, .long rf, .long rl, .ref rM_was, .long M_peak, .long M_beside, .int M_besideAt])), (aNw, .inl (cNw, 139, .inr (.inl nf))), (aVs, .inl (cVs, 64, .inr (.inl vf))), (aSg, .inl (cSg, 128, .inl sf)), (aRf, .inl (cRf, 3, .inl fRf))] H locs) 16 (fun i at_ fl vn sm te rt rf rl nf vf sf => []) (fun i at_ fl vn sm te rt rf rl nf vf sf H locs ls hv => ?_) (fun N16 i at_ fl vn sm te rt rf rl nf vf sf H locs ls ih16 hv => ?_) (501) 0 M_at M_fault M_valueMany M_signMany M_tells M_runTurns M_runFirst M_runLast fNw fVs fSg _ _ _ ⟨rfl, (by decide), (by decide), (by decide), wn, (by omega), (fr_rf _), lv_sub hl [0, 1, 2] rfl, hq⟩
    · skip
      obtain ⟨hrel16, i0, i1, hN, wnf, t6f, frf, hl, hq⟩ := hv
      omega
    · skip
      obtain ⟨hrel16, i0, i1, hN, wnf, t6f, frf, hl, hq⟩ := hv
      refine lv_iload_n hx hb dX8_tick_16 rfl (lv_at hl 0 rfl) ?_
      refine lv_iload_n hx hb dX8_tick_17 rfl (lv_at hl 2 rfl) ?_
      refine lv_icmp_ge (tgt := 31) hx hb dX8_tick_18 (by decide) (fun c_5 => ?_) (fun c_5 => ?_)
      · skip
        have hst_7 : lpX8_tick_16 p1 M_way M_wish M_moreTick M_moreForce (N16 + 1) i at_ fl vn sm te rt rf rl nf vf sf = ((i, at_, fl, vn, sm, te, rt, rf, rl, nf, vf, sf) : Int32 × Int32 × Int32 × Int32 × Int32 × Int64 × Int32 × Int64 × Int64 × (Nat → Int64) × (Nat → Int64) × (Nat → Int32)) := by
          exact (if_pos c_5).trans (rfl)
        have hx_6 : ((i, at_, fl, vn, sm, te, rt, rf, rl, nf, vf, sf) : Int32 × Int32 × Int32 × Int32 × Int32 × Int64 × Int32 × Int64 × Int64 × (Nat → Int64) × (Nat → Int64) × (Nat → Int32)) = lpX8_tick_16 p1 M_way M_wish M_moreTick M_moreForce (501) 0 M_at M_fault M_valueMany M_signMany M_tells M_runTurns M_runFirst M_runLast fNw fVs fSg := (hrel16.trans (hst_7)).symm
        obtain ⟨z_8, gz_8⟩ : ∃ z : Int32 × Int32 × Int32 × Int32 × Int32 × Int64 × Int32 × Int64 × Int64 × (Nat → Int64) × (Nat → Int64) × (Nat → Int32), z = (i, at_, fl, vn, sm, te, rt, rf, rl, nf, vf, sf) := ⟨_, rfl⟩
        have ez_8 : z_8 = lpX8_tick_16 p1 M_way M_wish M_moreTick M_moreForce (501) 0 M_at M_fault M_valueMany M_signMany M_tells M_runTurns M_runFirst M_runLast fNw fVs fSg := gz_8.trans hx_6
        have hl : lv_has ls 3 [(2, .int z_8.1), (0, .ref aM), (1, .int p1)] := by subst gz_8; exact hl
        have hq : kAt G A s [(aM, .inr (8, [.ref aNw, .ref rM_kept, .ref rM_isKept, .ref aRf, .int z_8.2.1, .int z_8.2.2.1, .ref aVs, .int z_8.2.2.2.1, .ref aSg, .int z_8.2.2.2.2.1, .long z_8.2.2.2.2.2.1, .int M_way, .int M_wish, .long M_moreTick, .long M_moreForce, .int z_8.2.2.2.2.2.2.1, .long z_8.2.2.2.2.2.2.2.1, .long z_8.2.2.2.2.2.2.2.2.1, .ref rM_was, .long M_peak, .long M_beside, .int M_besideAt])), (aNw, .inl (cNw, 139, .inr (.inl z_8.2.2.2.2.2.2.2.2.2.1))), (aVs, .inl (cVs, 64, .inr (.inl z_8.2.2.2.2.2.2.2.2.2.2.1))), (aSg, .inl (cSg, 128, .inl z_8.2.2.2.2.2.2.2.2.2.2.2)), (aRf, .inl (cRf, 3, .inl fRf))] H locs := by subst gz_8; exact hq
        have wnz : WN_ z_8.2.2.2.2.2.2.2.2.2.1 := by subst gz_8; exact wnf
        have t6z : (z_8.2.2.2.2.2.2.2.2.2.1 6).toInt ≤ (fNw 6).toInt + 501 := by subst gz_8; show (nf 6).toInt ≤ (fNw 6).toInt + 501; omega
        have frz : FR_ fNw z_8.2.2.2.2.2.2.2.2.2.1 := by subst gz_8; exact frf
        refine lv_aload_n hx hb dX8_tick_31 rfl (lv_at hl 1 rfl) ?_
        refine kk_get (ci := 8) (v := .ref aNw) (C := RX8) (T := TX8) (N := 22) hx hb hts iX8 hown hK hq 0 rfl rfl 0 (by decide) lk0_ rfl dX8_tick_32 ?_
        refine lv_iconst (v := 4) hx hb dX8_tick_35 (by decide) ?_
        refine kk_lald hx hb hK hq 1 0 rfl rfl 4 rfl (by decide) (by decide) dX8_tick_36 ?_
        refine lv_l2i hx hb dX8_tick_37 rfl ?_
        have hf : (((z_8.2.2.2.2.2.2.2.2.2.1 4).toInt32, z_8.2.1, z_8.2.2.1, z_8.2.2.2.1, z_8.2.2.2.2.1, z_8.2.2.2.2.2.1, z_8.2.2.2.2.2.2.1, z_8.2.2.2.2.2.2.2.1, z_8.2.2.2.2.2.2.2.2.1, z_8.2.2.2.2.2.2.2.2.2.1, z_8.2.2.2.2.2.2.2.2.2.2.1, z_8.2.2.2.2.2.2.2.2.2.2.2, fRf) : Int32 × Int32 × Int32 × Int32 × Int32 × Int64 × Int32 × Int64 × Int64 × (Nat → Int64) × (Nat → Int64) × (Nat → Int32) × (Nat → Int32)) = fX8_tick p1 M_at M_fault M_valueMany M_signMany M_tells M_way M_wish M_moreTick M_moreForce M_runTurns M_runFirst M_runLast fNw fVs fSg fRf := by
          exact ((congrArg (fun (r_2 : Int32) => ((if r_2 = 0 then (
    let r_14 : Int32 := (fX8_bad (-2) fRf).1
    let u_13 : Nat → Int32 := (fX8_bad (-2) fRf).2
    (r_14, M_at, M_fault, M_valueMany, M_signMany, M_tells, M_runTurns, M_runFirst, M_runLast, fNw, fVs, fSg, u_13))
  else (
    let z_8 : Int32 × Int32 × Int32 × Int32 × Int32 × Int64 × Int32 × Int64 × Int64 × (Nat → Int64) × (Nat → Int64) × (Nat → Int32) := lpX8_tick_16 p1 M_way M_wish M_moreTick M_moreForce (501) 0 M_at M_fault M_valueMany M_signMany M_tells M_runTurns M_runFirst M_runLast fNw fVs fSg
    ((z_8.2.2.2.2.2.2.2.2.2.1 4).toInt32, z_8.2.1, z_8.2.2.1, z_8.2.2.2.1, z_8.2.2.2.2.1, z_8.2.2.2.2.2.1, z_8.2.2.2.2.2.2.1, z_8.2.2.2.2.2.2.2.1, z_8.2.2.2.2.2.2.2.2.1, z_8.2.2.2.2.2.2.2.2.2.1, z_8.2.2.2.2.2.2.2.2.2.2.1, z_8.2.2.2.2.2.2.2.2.2.2.2, fRf))) : Int32 × Int32 × Int32 × Int32 × Int32 × Int64 × Int32 × Int64 × Int64 × (Nat → Int64) × (Nat → Int64) × (Nat → Int32) × (Nat → Int32))) er_2.symm).trans ((if_neg c_4).trans ((congrArg (fun (z_8 : Int32 × Int32 × Int32 × Int32 × Int32 × Int64 × Int32 × Int64 × Int64 × (Nat → Int64) × (Nat → Int64) × (Nat → Int32)) => ((((z_8.2.2.2.2.2.2.2.2.2.1 4).toInt32, z_8.2.1, z_8.2.2.1, z_8.2.2.2.1, z_8.2.2.2.2.1, z_8.2.2.2.2.2.1, z_8.2.2.2.2.2.2.1, z_8.2.2.2.2.2.2.2.1, z_8.2.2.2.2.2.2.2.2.1, z_8.2.2.2.2.2.2.2.2.2.1, z_8.2.2.2.2.2.2.2.2.2.2.1, z_8.2.2.2.2.2.2.2.2.2.2.2, fRf)) : Int32 × Int32 × Int32 × Int32 × Int32 × Int64 × Int32 × Int64 × Int64 × (Nat → Int64) × (Nat → Int64) × (Nat → Int32) × (Nat → Int32))) ez_8.symm)))).symm
        have hf1 := congrArg Prod.fst hf
        have hf2 := congrArg Prod.snd hf
        have en_0 : WN_ z_8.2.2.2.2.2.2.2.2.2.1 := by first | assumption | omega
        have en_1 : (z_8.2.2.2.2.2.2.2.2.2.1 6).toInt ≤ (fNw 6).toInt + 501 := by first | assumption | omega
        have en_2 : FR_ fNw z_8.2.2.2.2.2.2.2.2.2.1 := by first | assumption | exact fr_rf _
        exact kk_ei hx hb hr hlocks hK hq [0, 1, 2, 3, 4] (z_8.2.1, z_8.2.2.1, z_8.2.2.2.1, z_8.2.2.2.2.1, z_8.2.2.2.2.2.1, z_8.2.2.2.2.2.2.1, z_8.2.2.2.2.2.2.2.1, z_8.2.2.2.2.2.2.2.2.1, z_8.2.2.2.2.2.2.2.2.2.1, z_8.2.2.2.2.2.2.2.2.2.2.1, z_8.2.2.2.2.2.2.2.2.2.2.2, fRf) rfl (by decide) dX8_tick_38 ⟨hf1, hf2, en_0, en_1, en_2⟩
      · skip
        have hi : i.toInt < p1.toInt := by have h := c_5; rw [il_le] at h; omega
        refine lv_aload_n hx hb dX8_tick_21 rfl (lv_at hl 1 rfl) ?_
        refine kk_Vv (As := []) (rest := []) (wr := [(aRf, .inl (cRf, 3, .inl fRf))]) ⟨hx, hb, hml, hown, hts⟩ (c_X8_tickOnce l G aM aNw aVs aSg rM_kept rM_isKept aRf rM_was cNw cVs cSg at_ fl vn sm te M_way M_wish M_moreTick M_moreForce rt rf rl M_peak M_beside M_besideAt nf vf sf wnf wh) (kk_cwV 0 hts hsb wd_540 wd_541 wd_542 wd_5 wd_543 rfl rfl hd_X8_tickOnce ⟨Nat.le_of_ble_eq_true rfl, Nat.le_of_ble_eq_true rfl⟩) hA hK hq [0, 1, 2, 3] [4] [0, 1, 2] rfl rfl rfl (by decide) (by decide) (by decide) 0 8 rfl rfl rfl rfl hl.1 rfl (Nat.le_of_ble_eq_true rfl) dX8_tick_22 ⟨Nat.zero_le _, Nat.zero_le _⟩ (fun u_9 H locs h_11 hq => ?_)
        have eu_9 := h_11
        have hq : kAt G A s [(aRf, .inl (cRf, 3, .inl fRf)), (aM, .inr (8, [.ref aNw, .ref rM_kept, .ref rM_isKept, .ref aRf, .int u_9.1, .int u_9.2.1, .ref aVs, .int u_9.2.2.1, .ref aSg, .int u_9.2.2.2.1, .long u_9.2.2.2.2.1, .int M_way, .int M_wish, .long M_moreTick, .long M_moreForce, .int u_9.2.2.2.2.2.1, .long u_9.2.2.2.2.2.2.1, .long u_9.2.2.2.2.2.2.2.1, .ref rM_was, .long M_peak, .long M_beside, .int M_besideAt])), (aNw, .inl (cNw, 139, .inr (.inl u_9.2.2.2.2.2.2.2.2.1))), (aVs, .inl (cVs, 64, .inr (.inl u_9.2.2.2.2.2.2.2.2.2.1))), (aSg, .inl (cSg, 128, .inl u_9.2.2.2.2.2.2.2.2.2.2))] H locs := hq
        have afu_9 : AF_ nf u_9.2.2.2.2.2.2.2.2.1 := by rw [eu_9]; exact tick_AF _ _ _ _ _ _ _ _ _ _ _ _ _ _ _ wnf wh (by omega)
        have wnu_9 := AF_WN wnf afu_9
        have t6u_9 := afu_9.2.2.1.2
        have fru_9 := fr_tr frf afu_9.1
        refine lv_iinc (v := i + 1) (lv' := [(2, .int (i + 1)), (0, .ref aM), (1, .int p1)]) hx hb dX8_tick_25 hl (k := 0) rfl rfl (by decide) rfl (fun ls hl => ?_)
        refine lv_goto (tgt := 16) hx hb dX8_tick_28 (by decide) ?_
        have hst_12 : lpX8_tick_16 p1 M_way M_wish M_moreTick M_moreForce (N16 + 1) i at_ fl vn sm te rt rf rl nf vf sf = lpX8_tick_16 p1 M_way M_wish M_moreTick M_moreForce N16 (i + 1) u_9.1 u_9.2.1 u_9.2.2.1 u_9.2.2.2.1 u_9.2.2.2.2.1 u_9.2.2.2.2.2.1 u_9.2.2.2.2.2.2.1 u_9.2.2.2.2.2.2.2.1 u_9.2.2.2.2.2.2.2.2.1 u_9.2.2.2.2.2.2.2.2.2.1 u_9.2.2.2.2.2.2.2.2.2.2 := by
          subst eu_9
          exact (if_neg c_5).trans (rfl)
        exact ih16 (i + 1) u_9.1 u_9.2.1 u_9.2.2.1 u_9.2.2.2.1 u_9.2.2.2.2.1 u_9.2.2.2.2.2.1 u_9.2.2.2.2.2.2.1 u_9.2.2.2.2.2.2.2.1 u_9.2.2.2.2.2.2.2.2.1 u_9.2.2.2.2.2.2.2.2.2.1 u_9.2.2.2.2.2.2.2.2.2.2 _ _ _ ⟨(hrel16.trans (hst_12)), (by have := kk_inc (x := i) (by omega); omega), (by have := kk_inc (x := i) (by omega); omega), (by have := kk_inc (x := i) (by omega); omega), (by assumption), (by omega), (by assumption), lv_sub hl [0, 1, 2] rfl, (kk_sub hq [1, 2, 3, 4, 0] rfl (by decide))⟩
  · skip
    refine lv_aload_n hx hb dX8_tick_7 rfl (lv_at hl 0 rfl) ?_
    refine lv_bipush (v := -2) hx hb dX8_tick_8 (by decide) ?_
    refine kk_Vi (As := [.int (-2)]) (rest := []) (wr := [(aNw, .inl (cNw, 139, .inr (.inl fNw))), (aVs, .inl (cVs, 64, .inr (.inl fVs))), (aSg, .inl (cSg, 128, .inl fSg))]) ⟨hx, hb, hml, hown, hts⟩ (c_X8_bad l G aM aRf aNw rM_kept rM_isKept aVs aSg rM_was cRf (-2) M_at M_fault M_valueMany M_signMany M_tells M_way M_wish M_moreTick M_moreForce M_runTurns M_runFirst M_runLast M_peak M_beside M_besideAt fRf) (kk_cwV 1 hts hsb wd_159 wd_160 wd_161 wd_5 wd_162 rfl rfl hd_X8_bad ⟨Nat.le_of_ble_eq_true rfl, Nat.le_of_ble_eq_true rfl⟩) hA hK hq [0, 4] [1, 2, 3] [3] rfl rfl rfl (by decide) (by decide) (by decide) 0 8 rfl rfl rfl rfl hl.1 rfl (Nat.le_of_ble_eq_true rfl) dX8_tick_10 ⟨Nat.zero_le _, Nat.zero_le _⟩ (fun r_14 u_13 H locs h_15 hq => ?_)
    obtain ⟨er_14, eu_13⟩ := h_15
    have hq : kAt G A s [(aNw, .inl (cNw, 139, .inr (.inl fNw))), (aVs, .inl (cVs, 64, .inr (.inl fVs))), (aSg, .inl (cSg, 128, .inl fSg)), (aM, .inr (8, [.ref aNw, .ref rM_kept, .ref rM_isKept, .ref aRf, .int M_at, .int M_fault, .ref aVs, .int M_valueMany, .ref aSg, .int M_signMany, .long M_tells, .int M_way, .int M_wish, .long M_moreTick, .long M_moreForce, .int M_runTurns, .long M_runFirst, .long M_runLast, .ref rM_was, .long M_peak, .long M_beside, .int M_besideAt])), (aRf, .inl (cRf, 3, .inl u_13))] H locs := hq
    have hf : ((r_14, M_at, M_fault, M_valueMany, M_signMany, M_tells, M_runTurns, M_runFirst, M_runLast, fNw, fVs, fSg, u_13) : Int32 × Int32 × Int32 × Int32 × Int32 × Int64 × Int32 × Int64 × Int64 × (Nat → Int64) × (Nat → Int64) × (Nat → Int32) × (Nat → Int32)) = fX8_tick p1 M_at M_fault M_valueMany M_signMany M_tells M_way M_wish M_moreTick M_moreForce M_runTurns M_runFirst M_runLast fNw fVs fSg fRf := by
      exact ((congrArg (fun (r_2 : Int32) => ((if r_2 = 0 then (
    let r_14 : Int32 := (fX8_bad (-2) fRf).1
    let u_13 : Nat → Int32 := (fX8_bad (-2) fRf).2
    (r_14, M_at, M_fault, M_valueMany, M_signMany, M_tells, M_runTurns, M_runFirst, M_runLast, fNw, fVs, fSg, u_13))
  else (
    let z_8 : Int32 × Int32 × Int32 × Int32 × Int32 × Int64 × Int32 × Int64 × Int64 × (Nat → Int64) × (Nat → Int64) × (Nat → Int32) := lpX8_tick_16 p1 M_way M_wish M_moreTick M_moreForce (501) 0 M_at M_fault M_valueMany M_signMany M_tells M_runTurns M_runFirst M_runLast fNw fVs fSg
    ((z_8.2.2.2.2.2.2.2.2.2.1 4).toInt32, z_8.2.1, z_8.2.2.1, z_8.2.2.2.1, z_8.2.2.2.2.1, z_8.2.2.2.2.2.1, z_8.2.2.2.2.2.2.1, z_8.2.2.2.2.2.2.2.1, z_8.2.2.2.2.2.2.2.2.1, z_8.2.2.2.2.2.2.2.2.2.1, z_8.2.2.2.2.2.2.2.2.2.2.1, z_8.2.2.2.2.2.2.2.2.2.2.2, fRf))) : Int32 × Int32 × Int32 × Int32 × Int32 × Int64 × Int32 × Int64 × Int64 × (Nat → Int64) × (Nat → Int64) × (Nat → Int32) × (Nat → Int32))) er_2.symm).trans ((if_pos c_4).trans ((congrArg (fun (r_14 : Int32) => ((let u_13 : Nat → Int32 := (fX8_bad (-2) fRf).2
  (r_14, M_at, M_fault, M_valueMany, M_signMany, M_tells, M_runTurns, M_runFirst, M_runLast, fNw, fVs, fSg, u_13)) : Int32 × Int32 × Int32 × Int32 × Int32 × Int64 × Int32 × Int64 × Int64 × (Nat → Int64) × (Nat → Int64) × (Nat → Int32) × (Nat → Int32))) er_14.symm).trans ((congrArg (fun (u_13 : Nat → Int32) => (((r_14, M_at, M_fault, M_valueMany, M_signMany, M_tells, M_runTurns, M_runFirst, M_runLast, fNw, fVs, fSg, u_13)) : Int32 × Int32 × Int32 × Int32 × Int32 × Int64 × Int32 × Int64 × Int64 × (Nat → Int64) × (Nat → Int64) × (Nat → Int32) × (Nat → Int32))) eu_13.symm))))).symm
    have hf1 := congrArg Prod.fst hf
    have hf2 := congrArg Prod.snd hf
    have en_0 : WN_ fNw := by first | assumption | omega
    have en_1 : (fNw 6).toInt ≤ (fNw 6).toInt + 501 := by first | assumption | omega
    have en_2 : FR_ fNw fNw := by first | assumption | exact fr_rf _
    exact kk_ei hx hb hr hlocks hK hq [3, 0, 1, 2, 4] (M_at, M_fault, M_valueMany, M_signMany, M_tells, M_runTurns, M_runFirst, M_runLast, fNw, fVs, fSg, u_13) rfl (by decide) dX8_tick_13 ⟨hf1, hf2, en_0, en_1, en_2⟩
