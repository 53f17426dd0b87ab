set_option maxHeartbeats 4000000 in
set_option maxRecDepth 100000 in
/-- PathTree.detach -/
theorem k_detach {G : GG} {h : HH} {x y : Nat} {T : TT} {ad na : Nat → Nat} {ch : Nat → List Nat} {Q : Option Value → HH → Prop} (hC : CT G h x T ad na ch) (hsp : ∀ e, e < 300 → T.1 e = 2 → e ≠ 0 → T.2.1 e ≠ e) (hy : y < 300) (h1 : T.1 y = 1) (hQ : ∀ l1 l2, ch (T.2.1 y) = l1 ++ y :: l2 → ∀ h', RL ad h h' (ad (T.2.1 y)) y (ch (T.2.1 y)) (l1 ++ l2) → Q none h') : V G mP_detach 0 (lv_args 0 [.ref (ad y)]) [] h 0 0 Q := by
  have hf := hC.file hy h1
  have hy0 : y ≠ 0 := fun z => by (have h9 := hC.2.2.2.1.2.1; rw [z] at h1; omega)
  obtain ⟨hh, hd2⟩ := hC.2.2.1 y hy (by omega) hy0
  have hd := (hC.1 y hy).2
  have hdd := hC.dir hd hd2
  obtain ⟨l1, l2, hl⟩ := List.append_of_mem ((hC.mem hd hd2 (i := y)).mpr ⟨by omega, hy, by omega, rfl⟩)
  obtain ⟨c1, c2, c3, c4⟩ := hC.2.2.2.2.2 _ hd hd2
  have g1 := hC.ens hd hd2
  have g2 := hC.nself hd hd2 hsp
  have g3 := hC.inj hd hd2
  have g4 := hC.nodup hd hd2
  have hQ1 := hQ l1 l2 hl
  rw [hl] at c1 c2 g1 g2 g3 g4 hQ1
  first | refine V.aload_n dP_detach_0 rfl ?_ | refine V.aload_nN dP_detach_0 rfl ?_
  refine V.getk dP_detach_1 hf.1 hf.2 f_P_173_3 hh ?_
  refine V.ifnull dP_detach_4 ?_
  first | refine V.aload_n dP_detach_7 rfl ?_ | refine V.aload_nN dP_detach_7 rfl ?_
  refine V.getk dP_detach_8 hf.1 hf.2 f_P_173_3 hh ?_
  first | refine V.aload_n dP_detach_11 rfl ?_ | refine V.aload_nN dP_detach_11 rfl ?_
  refine V.callVk (kd := 2) 0 _ 0 _ [_] dP_detach_12 okD_release n_P_174 hdd.1 hdd.2 rfl imD_release seD_release_D (by decide) (by decide) rfl rfl (Nat.le_of_ble_eq_true rfl) (Nat.le_of_ble_eq_true rfl) (Nat.le_of_eq (Nat.zero_add _)) (Nat.le_of_eq (Nat.zero_add _)) (k_release hdd c1 c2 (fun i hi => ⟨(g1 i hi).1, (g1 i hi).2.1⟩) g2 g3 g4 (fun h9 hR9 => ?_))
  refine V.vreturn dP_detach_15 rfl ?_
  exact hQ1 h9 hR9
/-- arrays of characters stand -/
def N1 (h h' : HH) : Prop := ∀ b j, b < h.2.2 → (h.1 b).1 = 101 → h'.2.1 b j = h.2.1 b j
section CIR
variable {G : GG} {h : HH} {x o : Nat} {T : TT} {p : Nat → Nat} {len hand : Nat} {op : Option Nat} {gone : Bool} {bl : List (Nat × Nat)} {ad na : Nat → Nat} {ch : Nat → List Nat} {ba cp : Nat → Nat} {ga gb gc : Nat} 
/-- a file without bytes goes out of the tree -/
theorem CI.rem {h2 h3 : HH} {y : Nat} {l1 l2 : List Nat} (hI : CI G h x o T p len hand op gone bl ad na ch ba cp ga gb gc) (hy : y < 300) (h1 : T.1 y = 1) (hfy : s_fb bl y = []) (e2 : h2 = h_put h x 4 (.int (nI (s_cnt (fun e => decide (T.1 e = 1)) 300 - 1)))) (hl : ch (T.2.1 y) = l1 ++ y :: l2) (hR : RL ad h2 h3 (ad (T.2.1 y)) y (ch (T.2.1 y)) (l1 ++ l2)) :
    ∃ ga' gb' gc', CI G h3 x o (fu T.1 y 0, T.2) p len hand op (gone || decide (op = some y)) bl ad na (fun e => if e = T.2.1 y then l1 ++ l2 else ch e) ba cp ga' gb' gc' ∧ CFr o h h3 ∧ N1 h h3 := by
  obtain ⟨hNK, hP, hO, hX, hC, hB⟩ := id hI
  obtain ⟨ht, htk, hca, hln, hcs, hck, hch, hl2, hp⟩ := id hX
  obtain ⟨a1, a2, a3, a4, a5, a6, a7, a8, a9⟩ := id hP
  obtain ⟨n1, n2, n3, n4, n5⟩ := hI.px (k := 4) (v := .int (nI (s_cnt (fun e => decide (T.1 e = 1)) 300 - 1)))
  rw [← e2] at n1 n2 n3 n4 n5
  have hy0 : y ≠ 0 := fun z => by (have h9 := hC.2.2.2.1.2.1; rw [z] at h1; omega)
  obtain ⟨hh, hd2⟩ := hC.2.2.1 y hy (by omega) hy0
  have hd := (hC.1 y hy).2
  have hfy3 := n3.file hy h1
  have hT := hR.tree (n3.dir hd hd2).2 (Or.inr hfy3.2) (fun i hi => (n3.ens hd hd2 i hi).2.1)
  have hC3 := n3.rem ⟨by omega, hy⟩ h1 rfl hl hR
  have hz3 : h3.2.2 = h.2.2 := by (rw [hR.2.1, e2]; rfl)
  have hk3 : h3.1 = h.1 := by (rw [hR.1, e2]; rfl)
  have hkx2 : (h2.1 x).1 = 0 := by (rw [e2]; exact a2)
  have hx2 : x < h2.2.2 := by (rw [e2]; exact a1.2)
  have f2 : ∀ j v, h2.2.1 x j = v → h3.2.1 x j = v := fun j v q => (hT.2.2 x j hx2 (fun z => by omega)).trans q
  have fx : ∀ j v, j ≠ 4 → h.2.1 x j = v → h3.2.1 x j = v := fun j v hj q => f2 j v (by rw [e2, hp_j hj]; exact q)
  have hX3 := n2.fk hT (fun j => ⟨fun z => by (have h9 := n2.2.1; omega), fun z => by (have h9 := n2.2.2.2.2.2.1; rw [h9] at z; omega)⟩)
  have hB3 : CF G h3 o (fu T.1 y 0, T.2) bl ad ba cp := (n4.tree hT).sub (fun e he w => by
    have w : fu T.1 y 0 e = 1 := w
    have z : e ≠ y := fun z => by (rw [z, fu_s] at w; omega)
    rw [fu_n z] at w
    exact ⟨w, rfl, rfl, rfl⟩)
  have hnh : hand ≠ y := fun z => by (rw [z] at a6; omega)
  have hP3 : CP G h3 x (fu T.1 y 0, T.2) hand bl ad := by
    refine ⟨by rw [hz3]; exact a1, by rw [hk3]; exact a2, fx _ _ (by omega) a3, fx _ _ (by omega) a4, fx _ _ (by omega) a5, ⟨a6.1, (fu_n hnh).trans a6.2⟩, ?_, ?_, fx _ _ (by omega) a9⟩
    · refine f2 _ _ ?_
      rw [e2, hp_eq, s_cnt_up (f := fun e => decide (fu T.1 y 0 e = 1)) (g := fun e => decide (T.1 e = 1)) (y := y) (by simp [fu_s]) (by simp [h1]) (fun e he => by simp [fu_n he]) hy, Nat.add_sub_cancel]
    · rw [fx _ _ (by omega) a8, s_cnt_congr (f := fun e => decide (T.1 e = 2)) (g := fun e => decide (fu T.1 y 0 e = 2))]
      intro e he
      by_cases z : e = y
      · subst z; simp [fu_s, h1]
      · simp [fu_n z]
  have hF4 := n5.tr (CFr.tree n1 hT)
  have hN4 : N1 h h3 := fun b j hb hk => by
    have hk2 : (h2.1 b).1 = 101 := by (rw [e2]; exact hk)
    rw [hT.2.2 b j (by rw [e2]; exact hb) (fun z => by omega), e2, hp_a (fun z => by (rw [z, a2] at hk; omega))]
  have hF3 : CFr o h h3 ∧ N1 h h3 := ⟨hF4, hN4⟩
  have hfb := (n4.1 y hy h1).1
  rw [hfy] at hfb
  have nlv : ∀ e, fu T.1 y 0 e ≠ 0 → e ≠ y ∧ T.1 e ≠ 0 := fun e he => by
    by_cases z : e = y
    · rw [z, fu_s] at he; exact absurd rfl he
    · rw [fu_n z] at he; exact ⟨z, he⟩
  have hkd : (h2.1 (ad (T.2.1 y))).1 = 2 := (n3.dir hd hd2).2
  by_cases hc : op = some y ∧ gone = false
  · refine ⟨ad y, ba y, cp y, ⟨n1.fr hT, hP3, ⟨?_, fun e w1 w2 => ?_, fun e w1 w2 => ⟨?_, hR.2.2.2.2.1, fun f hf hlf z => ?_⟩⟩, hX3, hC3, hB3⟩, hF3⟩
    · rw [fx _ _ (by omega) hO.1, hc.1, hc.2]; simp; rfl
    · rw [hc.1] at w2; simp at w2
    · exact hfb.fk0 hR.fk (fun z => by (rcases z with z | z | ⟨i, hi, z⟩; (have h9 := hfy3.2; rw [z.1] at h9; omega); omega; omega)) (fun z => by (rcases z with z | z | ⟨i, hi, z⟩; (have h9 := hfy3.2; rw [z.1] at h9; omega); omega; omega))
    · have hlf := nlv f hlf
      exact hlf.1 (hC.2.2.2.2.1 f y hf hy hlf.2 (by omega) z)
  · have hgg : (gone || decide (op = some y)) = gone := by
      cases hgo : gone with
      | true => rfl
      | false =>
        by_cases z : op = some y
        · exact absurd ⟨z, hgo⟩ hc
        · simp [z]
    rw [hgg]
    refine ⟨ga, gb, gc, ⟨n1.fr hT, hP3, ⟨fx _ _ (by omega) hO.1, fun e w1 w2 => ?_, fun e w1 w2 => ?_⟩, hX3, hC3, hB3⟩, hF3⟩
    · have h9 := hO.2.1 e w1 w2
      have z : e ≠ y := fun z => hc ⟨by rw [w1, z], w2⟩
      exact ⟨h9.1, (fu_n z).trans h9.2⟩
    · obtain ⟨g1, g2, g3⟩ := hO.2.2 e w1 w2
      have hga : ga ≠ ad y := fun z => g3 y hy (by omega) z.symm
      have hxg : ga ≠ x := fun z => by (have h9 := g1.2.1; rw [z, a2] at h9; omega)
      have g12 : FB G h2 ga gb gc [] := by (rw [e2]; exact g1.fk0 FK.put (fun z => hxg z.1) (fun z => hxg z.1))
      have gk := g12.2.1
      have g22 : h2.2.1 ga 1 = .null := by (rw [e2, hp_a hxg]; exact g2)
      refine ⟨g12.fk0 hR.fk (fun z => ?_) (fun z => ?_), (hR.fk.2.2 _ _ g12.1.2 (fun z => ?_)).trans g22, fun f hf hlf => g3 f hf (nlv f hlf).2⟩
      · rcases z with z | z | ⟨i, hi, z⟩
        · rw [z.1] at gk; omega
        · omega
        · omega
      · rcases z with z | z | ⟨i, hi, z⟩
        · rw [z.1] at gk; omega
        · omega
        · omega
      · rcases z with z | z | ⟨i, hi, z⟩
        · omega
        · exact hga z.1
        · omega
end CIR
set_option maxHeartbeats 4000000 in
set_option maxRecDepth 100000 in
/-- PathTree.discard -/
theorem k_discard {G : GG} {h : HH} {x o : Nat} {T : TT} {p : Nat → Nat} {len hand : Nat} {op : Option Nat} {gone : Bool} {bl : List (Nat × Nat)} {ad na : Nat → Nat} {ch : Nat → List Nat} {ba cp : Nat → Nat} {ga gb gc : Nat} {Q : Option Value → HH → Prop} {y : Nat} (hI : CI G h x o T p len hand op gone bl ad na ch ba cp ga gb gc) (hsp : ∀ e, e < 300 → T.1 e = 2 → e ≠ 0 → T.2.1 e ≠ e) (hy : y < 300) (h1 : T.1 y = 1) (hQ : ∀ h' ch' ga' gb' gc', CI G h' x o (fu T.1 y 0, T.2) p len hand op (gone || decide (op = some y)) (s_but bl y) ad na ch' ba cp ga' gb' gc' → CFr o h h' → N1 h h' → Q none h') : V G mP_discard 0 (lv_args 0 [.ref x, .ref (ad y)]) [] h 0 0 Q := by
  obtain ⟨hNK, hP, hO, hX, hC, hB⟩ := id hI
  obtain ⟨ht, htk, hca, hln, hcs, hck, hch, hl2, hp⟩ := id hX
  obtain ⟨a1, a2, a3, a4, a5, a6, a7, a8, a9⟩ := id hP
  have hf := (hB.1 y hy h1).1
  have hfl := fb_le bl y
  first | refine V.aload_n dP_discard_0 rfl ?_ | refine V.aload_nN dP_discard_0 rfl ?_
  first | refine V.aload_n dP_discard_1 rfl ?_ | refine V.aload_nN dP_discard_1 rfl ?_
  refine V.callVk (kd := 0) 0 _ 0 _ [_] dP_discard_2 okP_dropBytes n_P_83 a1 a2 rfl imP_dropBytes seP_dropBytes_P (by decide) (by decide) rfl rfl (Nat.le_of_ble_eq_true rfl) (Nat.le_of_ble_eq_true rfl) (Nat.le_of_eq (Nat.zero_add _)) (Nat.le_of_eq (Nat.zero_add _)) (k_drop a1 a2 a9 hf hfl (fun h9 e9 => ?_))
  obtain ⟨hI9, hF9⟩ := hI.drop hy h1 e9
  obtain ⟨hNK9, hP9, hO9, hX9, hC9, hB9⟩ := id hI9
  have hpos := s_cnt_pos (f := fun e => decide (T.1 e = 1)) (y := y) (by simp [h1]) hy
  first | refine V.aload_n dP_discard_5 rfl ?_ | refine V.aload_nN dP_discard_5 rfl ?_
  refine V.dup dP_discard_6 rfl ?_
  refine V.getk dP_discard_7 hP9.1 hP9.2.1 f_P_32_0 hP9.2.2.2.2.2.2.1 ?_
  refine V.iconst (v := (nI 1)) dP_discard_10 (by decide) ?_
  refine V.isubN dP_discard_11 (by omega) ?_
  refine V.putk dP_discard_12 hP9.1 hP9.2.1 p_P_32_0 rfl rfl ?_
  intro h12 e12
  obtain ⟨n1, n2, n3, n4, n5⟩ := hI9.px (k := 4) (v := .int (nI (s_cnt (fun e => decide (T.1 e = 1)) 300 - 1)))
  rw [← e12] at n1 n2 n3 n4 n5
  first | refine V.aload_n dP_discard_15 rfl ?_ | refine V.aload_nN dP_discard_15 rfl ?_
  refine V.callS 0 _ 0 _ [_] dP_discard_16 okP_detach n_P_170 stP_detach (by decide) (by decide) rfl rfl (Nat.le_of_ble_eq_true rfl) (Nat.le_of_ble_eq_true rfl) (Nat.le_of_eq (Nat.zero_add _)) (Nat.le_of_eq (Nat.zero_add _)) (k_detach n3 hsp hy h1 (fun l1 l2 hl h16 hR => ?_))
  refine V.vreturn dP_discard_19 rfl ?_
  obtain ⟨ga2, gb2, gc2, hI16, hF16, hN16⟩ := hI9.rem hy h1 (fb_but_s bl y) e12 hl hR
  refine hQ h16 _ ga2 gb2 gc2 hI16 (hF9.tr hF16) (fun b j hb hk => ?_)
  rw [hN16 b j (by rw [e9]; exact hb) (by rw [e9]; exact hk), e9, hp_a (fun z => by (have h9 := hf.2.1; rw [← z, hk] at h9; omega)), hp_a (fun z => by (rw [z, a2] at hk; omega))]
set_option maxHeartbeats 4000000 in
set_option maxRecDepth 100000 in
/-- PathTree.remove -/
theorem k_remove {G : GG} {h : HH} {x o : Nat} {T : TT} {p : Nat → Nat} {len hand : Nat} {op : Option Nat} {gone : Bool} {bl : List (Nat × Nat)} {ad na : Nat → Nat} {ch : Nat → List Nat} {ba cp : Nat → Nat} {ga gb gc : Nat} {Q : Option Value → HH → Prop} (hI : CI G h x o T p len hand op gone bl ad na ch ba cp ga gb gc) (hsp : ∀ e, e < 300 → T.1 e = 2 → e ≠ 0 → T.2.1 e ≠ e) (q0 : (∀ e, s_lead T p hand len = some e → T.1 e ≠ 1) → ∀ h', CI G h' x o T p 0 hand op gone bl ad na ch ba cp ga gb gc → CFr o h h' → Q (some (.int (nI 0))) h') (q1 : ∀ y, s_lead T p hand len = some y → T.1 y = 1 → ∀ h' ch' ga' gb' gc', CI G h' x o (fu T.1 y 0, T.2) p 0 hand op (gone || decide (op = some y)) (s_but bl y) ad na ch' ba cp ga' gb' gc' → CFr o h h' → Q (some (.int (nI 1))) h') : V G mP_remove 0 (lv_args 0 [.ref x]) [] h 0 0 Q := by
  obtain ⟨hNK, hP, hO, hX, hC, hB⟩ := id hI
  obtain ⟨ht, htk, hca, hln, hcs, hck, hch, hl2, hp⟩ := id hX
  obtain ⟨a1, a2, a3, a4, a5, a6, a7, a8, a9⟩ := id hP
  first | refine V.aload_n dP_remove_0 rfl ?_ | refine V.aload_nN dP_remove_0 rfl ?_
  refine V.callVk (kd := 0) 0 _ 0 _ [] dP_remove_1 okP_target n_P_57 a1 a2 rfl imP_target seP_target_P (by decide) (by decide) rfl rfl (Nat.le_of_ble_eq_true rfl) (Nat.le_of_ble_eq_true rfl) (Nat.le_of_eq (Nat.zero_add _)) (Nat.le_of_eq (Nat.zero_add _)) (k_target hP hX hC (fun hr => ?_) (fun e hr he hl => ?_))
  · first | refine V.astore_n dP_remove_4 (by decide) ?_ | refine V.astore_nN dP_remove_4 (by decide) ?_
    first | refine V.aload_n dP_remove_5 rfl ?_ | refine V.aload_nN dP_remove_5 rfl ?_
    refine V.getk dP_remove_6 a1 a2 f_P_10_0 a3 ?_
    refine V.callVk (kd := 1) 0 _ 0 _ [] dP_remove_9 okT_clear n_P_61 ht htk rfl imT_clear seT_clear_T (by decide) (by decide) rfl rfl (Nat.le_of_ble_eq_true rfl) (Nat.le_of_ble_eq_true rfl) (Nat.le_of_eq (Nat.zero_add _)) (Nat.le_of_eq (Nat.zero_add _)) (k_clear hX (fun h9 e9 => ?_))
    obtain ⟨hI9, hF9⟩ := hI.clr e9
    obtain ⟨hNK9, hP9, hO9, hX9, hC9, hB9⟩ := id hI9
    first | refine V.aload_n dP_remove_12 rfl ?_ | refine V.aload_nN dP_remove_12 rfl ?_
    refine V.instN dP_remove_13 ?_
    refine V.if_eq (tgt := 31) dP_remove_16 (by decide) (fun c_16 => ?_) (fun c_16 => ?_)
    · skip
      refine V.iconst (v := (nI 0)) dP_remove_31 (by decide) ?_
      refine V.ireturn dP_remove_32 rfl rfl ?_
      exact q0 (fun f hf => by (rw [hr] at hf; cases hf)) h9 hI9 hF9
    · skip
      exact absurd rfl c_16
  · have hk2 := (hC.1 e he).1
    by_cases h2 : T.1 e = 2
    · first | refine V.astore_n dP_remove_4 (by decide) ?_ | refine V.astore_nN dP_remove_4 (by decide) ?_
      first | refine V.aload_n dP_remove_5 rfl ?_ | refine V.aload_nN dP_remove_5 rfl ?_
      refine V.getk dP_remove_6 a1 a2 f_P_10_0 a3 ?_
      refine V.callVk (kd := 1) 0 _ 0 _ [] dP_remove_9 okT_clear n_P_61 ht htk rfl imT_clear seT_clear_T (by decide) (by decide) rfl rfl (Nat.le_of_ble_eq_true rfl) (Nat.le_of_ble_eq_true rfl) (Nat.le_of_eq (Nat.zero_add _)) (Nat.le_of_eq (Nat.zero_add _)) (k_clear hX (fun h9 e9 => ?_))
      obtain ⟨hI9, hF9⟩ := hI.clr e9
      obtain ⟨hNK9, hP9, hO9, hX9, hC9, hB9⟩ := id hI9
      have hd := hC9.dir he h2
      first | refine V.aload_n dP_remove_12 rfl ?_ | refine V.aload_nN dP_remove_12 rfl ?_
      refine V.instn dP_remove_13 hd.1 hd.2 rfl cl_P_76 (by decide) ?_
      refine V.if_eq (tgt := 31) dP_remove_16 (by decide) (fun c_16 => ?_) (fun c_16 => ?_)
      · skip
        refine V.iconst (v := (nI 0)) dP_remove_31 (by decide) ?_
        refine V.ireturn dP_remove_32 rfl rfl ?_
        exact q0 (fun f hf => by (rw [hr] at hf; cases hf; omega)) h9 hI9 hF9
      · skip
        exact absurd rfl c_16
    · have h1 : T.1 e = 1 := by omega
      first | refine V.astore_n dP_remove_4 (by decide) ?_ | refine V.astore_nN dP_remove_4 (by decide) ?_
      first | refine V.aload_n dP_remove_5 rfl ?_ | refine V.aload_nN dP_remove_5 rfl ?_
      refine V.getk dP_remove_6 a1 a2 f_P_10_0 a3 ?_
      refine V.callVk (kd := 1) 0 _ 0 _ [] dP_remove_9 okT_clear n_P_61 ht htk rfl imT_clear seT_clear_T (by decide) (by decide) rfl rfl (Nat.le_of_ble_eq_true rfl) (Nat.le_of_ble_eq_true rfl) (Nat.le_of_eq (Nat.zero_add _)) (Nat.le_of_eq (Nat.zero_add _)) (k_clear hX (fun h9 e9 => ?_))
      obtain ⟨hI9, hF9⟩ := hI.clr e9
      obtain ⟨hNK9, hP9, hO9, hX9, hC9, hB9⟩ := id hI9
      have hf := hC9.file he h1
      first | refine V.aload_n dP_remove_12 rfl ?_ | refine V.aload_nN dP_remove_12 rfl ?_
      refine V.instk dP_remove_13 hf.1 hf.2 rfl cl_P_76 ?_
      refine V.if_eq (tgt := 31) dP_remove_16 (by decide) (fun c_16 => ?_) (fun c_16 => ?_)
      · skip
        exact absurd c_16 (by decide)
      · skip
        first | refine V.aload_n dP_remove_19 rfl ?_ | refine V.aload_nN dP_remove_19 rfl ?_
        refine V.castk dP_remove_20 hf.1 hf.2 rfl cl_P_76 ?_
        first | refine V.astore_n dP_remove_23 (by decide) ?_ | refine V.astore_nN dP_remove_23 (by decide) ?_
        first | refine V.aload_n dP_remove_24 rfl ?_ | refine V.aload_nN dP_remove_24 rfl ?_
        first | refine V.aload_n dP_remove_25 rfl ?_ | refine V.aload_nN dP_remove_25 rfl ?_
        refine V.callVk (kd := 0) 0 _ 0 _ [_] dP_remove_26 okP_discard n_P_112 hP9.1 hP9.2.1 rfl imP_discard seP_discard_P (by decide) (by decide) rfl rfl (Nat.le_of_ble_eq_true rfl) (Nat.le_of_ble_eq_true rfl) (Nat.le_of_eq (Nat.zero_add _)) (Nat.le_of_eq (Nat.zero_add _)) (k_discard hI9 hsp he h1 (fun h26 ch2 ga2 gb2 gc2 hI26 hF26 _ => ?_))
        refine V.iconst (v := (nI 1)) dP_remove_29 (by decide) ?_
        refine V.ireturn dP_remove_30 rfl rfl ?_
        exact q1 e hr h1 h26 ch2 ga2 gb2 gc2 hI26 (hF9.tr hF26)
  skip
