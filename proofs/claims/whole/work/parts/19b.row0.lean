theorem hd_X7_keepRowIfHigher : yX7_keepRowIfHigher.cls = RX7 ∧ yX7_keepRowIfHigher.cls ≠ "java/lang/invoke/MethodHandle" ∧ yX7_keepRowIfHigher.cls ≠ "java/lang/invoke/VarHandle" ∧ (parseMethodDescriptor yX7_keepRowIfHigher.desc).map (fun d => d.parameters.length) = some 1 := by decide +kernel
def fX7_tryRowFrom_5 (p3 : Int32) (Y_bestPeak : Int32) (fRO : Nat → Int32) (fBR : Nat → Int32) : Int32 × (Nat → Int32) :=
  let u_2 : Int32 × (Nat → Int32) := fX7_keepRowIfHigher p3 Y_bestPeak fRO fBR
  (u_2.1, u_2.2)

set_option maxHeartbeats 4000000 in
set_option maxRecDepth 100000 in
theorem c_X7_tryRowFrom_5 (l : Launch) (G : va_G) (ts : Nat → Nat) (aY aS aN aP aPT aPF aSg aE5 aRO aBR rY_images rY_kept rY_law rY_reader rY_trial rS_text rS_child rS_turns : Nat) (cN cPT cPF cSg cRO cBR : ClassId) (p2 : Int32) (p3 : Int32) (Y_bestPeak : Int32) (Y_bads : Int32) (Y_noes : Int32) (Y_fulls : Int32) (fN : Nat → Int32) (P_count : Int32) (fPT : Nat → Int32) (fPF : Nat → Int32) (fSg : Nat → Option Nat) (sE5 : st_X0) (fRO : Nat → Int32) (fBR : Nat → Int32) (hG5 : fSg 5 = some aE5) (hm : p2.toInt ≤ 12) : kDv l yX7_tryRowFrom (Cond.code yX7_tryRowFrom cX7_tryRowFrom 8 none :: wsL_law) ({ frames := 2, cells := 0, slots := 0, locals := 81 }) G [(cN, .int), (cPT, .int), (cPF, .int), (cSg, .object "SwingYard$Child"), (cRO, .int), (cBR, .int)] ts [.ref aY, .int 5, .int p2, .int p3] [(aY, .inr (7, [.ref aS, .ref rY_images, .ref rY_kept, .ref rY_law, .ref rY_reader, .ref rY_trial, .ref aSg, .ref aRO, .ref aBR, .int Y_bestPeak, .int Y_bads, .int Y_noes, .int Y_fulls])), (aS, .inr (4, [.ref aN, .ref rS_text, .ref aP, .ref rS_child, .ref rS_turns])), (aN, .inl (cN, 8, .inl fN)), (aP, .inr (3, [.ref aPT, .ref aPF, .int P_count])), (aPT, .inl (cPT, 8, .inl fPT)), (aPF, .inl (cPF, 8, .inl fPF)), (aSg, .inl (cSg, 6, .inr (.inr (.inr (.inr fSg))))), (aE5, .inr (0, [.long sE5.1, .long sE5.2.1, .int sE5.2.2.1, .int sE5.2.2.2.1, .int sE5.2.2.2.2.1, .int sE5.2.2.2.2.2.1, .int sE5.2.2.2.2.2.2.1, .int sE5.2.2.2.2.2.2.2.1, .int sE5.2.2.2.2.2.2.2.2.1, .int sE5.2.2.2.2.2.2.2.2.2.1, .long sE5.2.2.2.2.2.2.2.2.2.2.1, .long sE5.2.2.2.2.2.2.2.2.2.2.2])), (aRO, .inl (cRO, 5, .inl fRO)), (aBR, .inl (cBR, 5, .inl fBR))] (fun (u : Int32 × (Nat → Int32)) => u = fX7_tryRowFrom_5 p3 Y_bestPeak fRO fBR) (fun (u : Int32 × (Nat → Int32)) => [(aY, .inr (7, [.ref aS, .ref rY_images, .ref rY_kept, .ref rY_law, .ref rY_reader, .ref rY_trial, .ref aSg, .ref aRO, .ref aBR, .int u.1, .int Y_bads, .int Y_noes, .int Y_fulls])), (aS, .inr (4, [.ref aN, .ref rS_text, .ref aP, .ref rS_child, .ref rS_turns])), (aN, .inl (cN, 8, .inl fN)), (aP, .inr (3, [.ref aPT, .ref aPF, .int P_count])), (aPT, .inl (cPT, 8, .inl fPT)), (aPF, .inl (cPF, 8, .inl fPF)), (aSg, .inl (cSg, 6, .inr (.inr (.inr (.inr fSg))))), (aE5, .inr (0, [.long sE5.1, .long sE5.2.1, .int sE5.2.2.1, .int sE5.2.2.2.1, .int sE5.2.2.2.2.1, .int sE5.2.2.2.2.2.1, .int sE5.2.2.2.2.2.2.1, .int sE5.2.2.2.2.2.2.2.1, .int sE5.2.2.2.2.2.2.2.2.1, .int sE5.2.2.2.2.2.2.2.2.2.1, .long sE5.2.2.2.2.2.2.2.2.2.2.1, .long sE5.2.2.2.2.2.2.2.2.2.2.2])), (aRO, .inl (cRO, 5, .inl fRO)), (aBR, .inl (cBR, 5, .inl u.2))]) := by
  intro sz
  refine Met.ofW (cc := cX7_tryRowFrom) (maxL := 8) (ret := none) (by decide) rfl ?_
  intro p e s m args below meth c s₁ B hml hv
  obtain ⟨rfl, hv⟩ := hv
  obtain ⟨hv, hE⟩ := hv
  obtain ⟨rfl, hK, hq, hA⟩ := kk_begin hv
  have hx := B.exec
  have hb := B.bytes
  have hr := B.returns
  have hts := atoms_spec (ws := (Cond.code yX7_tryRowFrom cX7_tryRowFrom 8 none :: wsL_law)) B.pre
  have hown : s.vm.findClass RX7 = some m.cls := findClass_of_methodNamed B.named
  have hlocks := B.notSynchronized
  have hsb : ∀ w ∈ wsL_law, w ∈ (Cond.code yX7_tryRowFrom cX7_tryRowFrom 8 none :: wsL_law) := fun _ h => List.mem_cons_of_mem _ h
  generalize va_A [(aY, .inr (7, [.ref aS, .ref rY_images, .ref rY_kept, .ref rY_law, .ref rY_reader, .ref rY_trial, .ref aSg, .ref aRO, .ref aBR, .int Y_bestPeak, .int Y_bads, .int Y_noes, .int Y_fulls])), (aS, .inr (4, [.ref aN, .ref rS_text, .ref aP, .ref rS_child, .ref rS_turns])), (aN, .inl (cN, 8, .inl fN)), (aP, .inr (3, [.ref aPT, .ref aPF, .int P_count])), (aPT, .inl (cPT, 8, .inl fPT)), (aPF, .inl (cPF, 8, .inl fPF)), (aSg, .inl (cSg, 6, .inr (.inr (.inr (.inr fSg))))), (aE5, .inr (0, [.long sE5.1, .long sE5.2.1, .int sE5.2.2.1, .int sE5.2.2.2.1, .int sE5.2.2.2.2.1, .int sE5.2.2.2.2.2.1, .int sE5.2.2.2.2.2.2.1, .int sE5.2.2.2.2.2.2.2.1, .int sE5.2.2.2.2.2.2.2.2.1, .int sE5.2.2.2.2.2.2.2.2.2.1, .long sE5.2.2.2.2.2.2.2.2.2.2.1, .long sE5.2.2.2.2.2.2.2.2.2.2.2])), (aRO, .inl (cRO, 5, .inl fRO)), (aBR, .inl (cBR, 5, .inl fBR))] s.heap.size = A at hq hA hE ⊢
  have hl := lv_entry ([.ref aY, .int 5, .int p2, .int p3]) (n := 8) (Nat.le_of_ble_eq_true rfl)
  rw [lg_entry_eq]
  generalize (lg_sl ([.ref aY, .int 5, .int p2, .int p3]) ++ List.replicate (8 - (lg_sl ([.ref aY, .int 5, .int p2, .int p3])).length) Slot.unset).toArray = ls at hl ⊢
  have hl : lv_has ls 8 [(0, .ref aY), (1, .int 5), (2, .int p2), (3, .int p3)] := hl
  refine lv_iload_n hx hb dX7_tryRowFrom_0 rfl (lv_at hl 1 rfl) ?_
  refine lv_iconst (v := 5) hx hb dX7_tryRowFrom_1 (by decide) ?_
  refine lv_icmp_lt (tgt := 11) hx hb dX7_tryRowFrom_2 (by decide) (fun c_1 => ?_) (fun c_1 => ?_)
  · skip
    exact absurd c_1 (by decide)
  · skip
    refine lv_aload_n hx hb dX7_tryRowFrom_5 rfl (lv_at hl 0 rfl) ?_
    refine lv_iload_n hx hb dX7_tryRowFrom_6 rfl (lv_at hl 3 rfl) ?_
    refine kk_Vv (As := [.int p3]) (rest := []) (wr := [(aS, .inr (4, [.ref aN, .ref rS_text, .ref aP, .ref rS_child, .ref rS_turns])), (aN, .inl (cN, 8, .inl fN)), (aP, .inr (3, [.ref aPT, .ref aPF, .int P_count])), (aPT, .inl (cPT, 8, .inl fPT)), (aPF, .inl (cPF, 8, .inl fPF)), (aSg, .inl (cSg, 6, .inr (.inr (.inr (.inr fSg))))), (aE5, .inr (0, [.long sE5.1, .long sE5.2.1, .int sE5.2.2.1, .int sE5.2.2.2.1, .int sE5.2.2.2.2.1, .int sE5.2.2.2.2.2.1, .int sE5.2.2.2.2.2.2.1, .int sE5.2.2.2.2.2.2.2.1, .int sE5.2.2.2.2.2.2.2.2.1, .int sE5.2.2.2.2.2.2.2.2.2.1, .long sE5.2.2.2.2.2.2.2.2.2.2.1, .long sE5.2.2.2.2.2.2.2.2.2.2.2]))]) ⟨hx, hb, hml, hown, hts⟩ (c_X7_keepRowIfHigher l G aY aRO aBR aS rY_images rY_kept rY_law rY_reader rY_trial aSg cRO cBR p3 Y_bestPeak Y_bads Y_noes Y_fulls fRO fBR) (kk_cwV 1 hts hsb wd_692 wd_693 wd_694 wd_2 wd_695 rfl rfl hd_X7_keepRowIfHigher ⟨Nat.le_of_ble_eq_true rfl, Nat.le_of_ble_eq_true rfl⟩) hA hK hq [0, 8, 9] [1, 2, 3, 4, 5, 6, 7] [4, 5] rfl rfl rfl (by decide) (by decide) (by decide) 0 7 rfl rfl rfl rfl hl.1 rfl (Nat.le_of_ble_eq_true rfl) dX7_tryRowFrom_7 ⟨Nat.zero_le _, Nat.zero_le _⟩ (fun u_2 H locs h_4 hq => ?_)
    have eu_2 := h_4
    have hq : kAt G A s [(aS, .inr (4, [.ref aN, .ref rS_text, .ref aP, .ref rS_child, .ref rS_turns])), (aN, .inl (cN, 8, .inl fN)), (aP, .inr (3, [.ref aPT, .ref aPF, .int P_count])), (aPT, .inl (cPT, 8, .inl fPT)), (aPF, .inl (cPF, 8, .inl fPF)), (aSg, .inl (cSg, 6, .inr (.inr (.inr (.inr fSg))))), (aE5, .inr (0, [.long sE5.1, .long sE5.2.1, .int sE5.2.2.1, .int sE5.2.2.2.1, .int sE5.2.2.2.2.1, .int sE5.2.2.2.2.2.1, .int sE5.2.2.2.2.2.2.1, .int sE5.2.2.2.2.2.2.2.1, .int sE5.2.2.2.2.2.2.2.2.1, .int sE5.2.2.2.2.2.2.2.2.2.1, .long sE5.2.2.2.2.2.2.2.2.2.2.1, .long sE5.2.2.2.2.2.2.2.2.2.2.2])), (aY, .inr (7, [.ref aS, .ref rY_images, .ref rY_kept, .ref rY_law, .ref rY_reader, .ref rY_trial, .ref aSg, .ref aRO, .ref aBR, .int u_2.1, .int Y_bads, .int Y_noes, .int Y_fulls])), (aRO, .inl (cRO, 5, .inl fRO)), (aBR, .inl (cBR, 5, .inl u_2.2))] H locs := hq
    have hf : ((u_2.1, u_2.2) : Int32 × (Nat → Int32)) = fX7_tryRowFrom_5 p3 Y_bestPeak fRO fBR := by
      exact ((congrArg (fun (u_2 : Int32 × (Nat → Int32)) => (((u_2.1, u_2.2)) : Int32 × (Nat → Int32))) eu_2.symm)).symm
    exact kk_ev hx hb hr hlocks hK hq [7, 0, 1, 2, 3, 4, 5, 6, 8, 9] (u_2.1, u_2.2) rfl (by decide) dX7_tryRowFrom_10 hf
