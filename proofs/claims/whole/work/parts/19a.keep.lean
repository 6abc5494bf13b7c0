def fX7_keepRowIfHigher (p1 : Int32) (Y_bestPeak : Int32) (fRO : Nat → Int32) (fBR : Nat → Int32) : Int32 × (Nat → Int32) :=
  let bestPeak_2 : Int32 := if p1 ≤ Y_bestPeak then Y_bestPeak else p1
  let gBR_3 : Nat → Int32 := if p1 ≤ Y_bestPeak then fBR else fRO
  (bestPeak_2, gBR_3)

set_option maxHeartbeats 4000000 in
set_option maxRecDepth 100000 in
theorem c_X7_keepRowIfHigher (l : Launch) (G : va_G) (aY aRO aBR rY_now rY_images rY_kept rY_law rY_reader rY_trial rY_stages : Nat) (cRO cBR : ClassId) (p1 : Int32) (Y_bestPeak : Int32) (Y_bads : Int32) (Y_noes : Int32) (Y_fulls : Int32) (fRO : Nat → Int32) (fBR : Nat → Int32) : kCv l yX7_keepRowIfHigher (Cond.code yX7_keepRowIfHigher cX7_keepRowIfHigher 2 none :: wsL_law) ({ frames := 1, cells := 0, slots := 0, locals := 60 }) G [(cRO, .int), (cBR, .int)] [.ref aY, .int p1] [(aY, .inr (7, [.ref rY_now, .ref rY_images, .ref rY_kept, .ref rY_law, .ref rY_reader, .ref rY_trial, .ref rY_stages, .ref aRO, .ref aBR, .int Y_bestPeak, .int Y_bads, .int Y_noes, .int Y_fulls])), (aRO, .inl (cRO, 5, .inl fRO)), (aBR, .inl (cBR, 5, .inl fBR))] (fun (u : Int32 × (Nat → Int32)) => u = fX7_keepRowIfHigher p1 Y_bestPeak fRO fBR) (fun (u : Int32 × (Nat → Int32)) => [(aY, .inr (7, [.ref rY_now, .ref rY_images, .ref rY_kept, .ref rY_law, .ref rY_reader, .ref rY_trial, .ref rY_stages, .ref aRO, .ref aBR, .int u.1, .int Y_bads, .int Y_noes, .int Y_fulls])), (aRO, .inl (cRO, 5, .inl fRO)), (aBR, .inl (cBR, 5, .inl u.2))]) := by
  intro sz
  refine Met.ofW (cc := cX7_keepRowIfHigher) (maxL := 2) (ret := none) (by decide) rfl ?_
  intro p e s m args below meth c s₁ B hml hv
  obtain ⟨rfl, hv⟩ := hv
  obtain ⟨rfl, hK, hq, hA⟩ := kk_begin hv
  have hx := B.exec
  have hb := B.bytes
  have hr := B.returns
  have hts := atoms_spec (ws := (Cond.code yX7_keepRowIfHigher cX7_keepRowIfHigher 2 none :: wsL_law)) B.pre
  have hown : s.vm.findClass RX7 = some m.cls := findClass_of_methodNamed B.named
  have hlocks := B.notSynchronized
  have hsb : ∀ w ∈ wsL_law, w ∈ (Cond.code yX7_keepRowIfHigher cX7_keepRowIfHigher 2 none :: wsL_law) := fun _ h => List.mem_cons_of_mem _ h
  generalize va_A [(aY, .inr (7, [.ref rY_now, .ref rY_images, .ref rY_kept, .ref rY_law, .ref rY_reader, .ref rY_trial, .ref rY_stages, .ref aRO, .ref aBR, .int Y_bestPeak, .int Y_bads, .int Y_noes, .int Y_fulls])), (aRO, .inl (cRO, 5, .inl fRO)), (aBR, .inl (cBR, 5, .inl fBR))] s.heap.size = A at hq hA ⊢
  have iX7 : ∀ w ∈ u_ws RX7 TX7 13, w ∈ (Cond.code yX7_keepRowIfHigher cX7_keepRowIfHigher 2 none :: wsL_law) := fun w h => hsb w (bin_X7 w h)
  have lk0_ := hts _ (hsb _ wd_36)
  have lk1_ := hts _ (hsb _ wd_34)
  have lk2_ := hts _ (hsb _ wd_35)
  have lk3_ := hts _ (hsb _ wd_696)
  have lk4_ := hts _ (hsb _ wd_697)
  have lk5_ := hts _ (hsb _ wd_698)
  have lk6_ := hts _ (hsb _ wd_699)
  have hl := lv_entry ([.ref aY, .int p1]) (n := 2) (Nat.le_of_ble_eq_true rfl)
  rw [lg_entry_eq]
  generalize (lg_sl ([.ref aY, .int p1]) ++ List.replicate (2 - (lg_sl ([.ref aY, .int p1])).length) Slot.unset).toArray = ls at hl ⊢
  have hl : lv_has ls 2 [(0, .ref aY), (1, .int p1)] := hl
  refine lv_iload_n hx hb dX7_keepRowIfHigher_0 rfl (lv_at hl 1 rfl) ?_
  refine lv_aload_n hx hb dX7_keepRowIfHigher_1 rfl (lv_at hl 0 rfl) ?_
  refine kk_get (ci := 7) (v := .int Y_bestPeak) (C := RX7) (T := TX7) (N := 13) hx hb hts iX7 hown hK hq 0 rfl rfl 9 (by decide) lk0_ rfl dX7_keepRowIfHigher_2 ?_
  refine kk_join2 (fun (bestPeak_2 : Int32) (gBR_3 : Nat → Int32) (H : Heap) (locs : List Loc) (ls : Array Slot) => bestPeak_2 = (if p1 ≤ Y_bestPeak then Y_bestPeak else p1) ∧ gBR_3 = (if p1 ≤ Y_bestPeak then fBR else fRO) ∧ lv_has ls 2 [(0, .ref aY), (1, .int p1)] ∧ kAt G A s [(aY, .inr (7, [.ref rY_now, .ref rY_images, .ref rY_kept, .ref rY_law, .ref rY_reader, .ref rY_trial, .ref rY_stages, .ref aRO, .ref aBR, .int bestPeak_2, .int Y_bads, .int Y_noes, .int Y_fulls])), (aRO, .inl (cRO, 5, .inl fRO)), (aBR, .inl (cBR, 5, .inl gBR_3))] H locs) 27 (fun bestPeak_2 gBR_3 => []) (fun bestPeak_2 gBR_3 H locs ls hv => ?_) (fun J_4 => ?_)
  · skip
    obtain ⟨ebestPeak_2, egBR_3, hl, hq⟩ := hv
    have hf : ((bestPeak_2, gBR_3) : Int32 × (Nat → Int32)) = fX7_keepRowIfHigher p1 Y_bestPeak fRO fBR := by
      exact ((congrArg (fun (bestPeak_2 : Int32) => ((let gBR_3 : Nat → Int32 := if p1 ≤ Y_bestPeak then fBR else fRO
  (bestPeak_2, gBR_3)) : Int32 × (Nat → Int32))) ebestPeak_2.symm).trans ((congrArg (fun (gBR_3 : Nat → Int32) => (((bestPeak_2, gBR_3)) : Int32 × (Nat → Int32))) egBR_3.symm))).symm
    exact kk_ev hx hb hr hlocks hK hq [0, 1, 2] (bestPeak_2, gBR_3) rfl (by decide) dX7_keepRowIfHigher_27 hf
  · skip
    refine lv_icmp_le (tgt := 27) hx hb dX7_keepRowIfHigher_5 (by decide) (fun c_1 => ?_) (fun c_1 => ?_)
    · skip
      exact J_4 Y_bestPeak fBR _ _ _ ⟨(if_pos c_1).symm, (if_pos c_1).symm, lv_sub hl [0, 1] rfl, hq⟩
    · skip
      refine lv_aload_n hx hb dX7_keepRowIfHigher_8 rfl (lv_at hl 0 rfl) ?_
      refine lv_iload_n hx hb dX7_keepRowIfHigher_9 rfl (lv_at hl 1 rfl) ?_
      refine kk_put (ws' := [(aY, .inr (7, [.ref rY_now, .ref rY_images, .ref rY_kept, .ref rY_law, .ref rY_reader, .ref rY_trial, .ref rY_stages, .ref aRO, .ref aBR, .int p1, .int Y_bads, .int Y_noes, .int Y_fulls])), (aRO, .inl (cRO, 5, .inl fRO)), (aBR, .inl (cBR, 5, .inl fBR))]) (ci := 7) (v := .int p1) (C := RX7) (T := TX7) (N := 13) hx hb hts iX7 tyX7_ok nmX7 hown hK hq 0 rfl rfl 9 (by decide) lk0_ rfl rfl rfl (Nat.le_of_ble_eq_true rfl) dX7_keepRowIfHigher_10 rfl (fun H locs hq => ?_)
      refine lv_aload_n hx hb dX7_keepRowIfHigher_13 rfl (lv_at hl 0 rfl) ?_
      refine kk_get (ci := 7) (v := .ref aRO) (C := RX7) (T := TX7) (N := 13) hx hb hts iX7 hown hK hq 0 rfl rfl 7 (by decide) lk1_ rfl dX7_keepRowIfHigher_14 ?_
      refine lv_iconst (v := 0) hx hb dX7_keepRowIfHigher_17 (by decide) ?_
      refine lv_aload_n hx hb dX7_keepRowIfHigher_18 rfl (lv_at hl 0 rfl) ?_
      refine kk_get (ci := 7) (v := .ref aBR) (C := RX7) (T := TX7) (N := 13) hx hb hts iX7 hown hK hq 0 rfl rfl 8 (by decide) lk2_ rfl dX7_keepRowIfHigher_19 ?_
      refine lv_iconst (v := 0) hx hb dX7_keepRowIfHigher_22 (by decide) ?_
      refine lv_iconst (v := 5) hx hb dX7_keepRowIfHigher_23 (by decide) ?_
      refine kk_copyi (ws' := [(aY, .inr (7, [.ref rY_now, .ref rY_images, .ref rY_kept, .ref rY_law, .ref rY_reader, .ref rY_trial, .ref rY_stages, .ref aRO, .ref aBR, .int p1, .int Y_bads, .int Y_noes, .int Y_fulls])), (aRO, .inl (cRO, 5, .inl fRO)), (aBR, .inl (cBR, 5, .inl fRO))]) (N := 5) hx hb (by rw [hml]; exact hl.1.symm) hown lk3_ lk4_ lk5_ lk6_ hK hq 1 2 0 1 rfl rfl rfl rfl (by decide) (by decide) (Nat.le_of_ble_eq_true rfl) (Nat.le_of_ble_eq_true rfl) dX7_keepRowIfHigher_24 rfl (fun H locs hq => ?_)
      exact J_4 p1 fRO _ _ _ ⟨(if_neg c_1).symm, (if_neg c_1).symm, lv_sub hl [0, 1] rfl, hq⟩
