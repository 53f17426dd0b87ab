theorem CT.nself {G : GG} {h : HH} {x : Nat} {T : TT} {ad na : Nat → Nat} {ch : Nat → List Nat} {d : Nat} (hC : CT G h x T ad na ch) (hd : d < 300) (h2 : T.1 d = 2) (hsp : ∀ e, e < 300 → T.1 e = 2 → e ≠ 0 → T.2.1 e ≠ e) : ∀ i ∈ ch d, ad i ≠ ad d := fun i hi z => by
  have hm := (hC.mem hd h2).mp hi
  have := hC.2.2.2.2.1 i d hm.2.1 hd hm.2.2.1 (by omega) z
  subst this
  exact hsp i hd h2 (by omega) hm.2.2.2
set_option maxHeartbeats 4000000 in
set_option maxRecDepth 100000 in
/-- PathTree.make -/
theorem k_make {G : GG} {h : HH} {x o : Nat} {T : TT} {p : Nat → Nat} {len hand : Nat} {op : Option Nat} {gone : Bool} {bl : List (Nat × Nat)} {ad na : Nat → Nat} {ch : Nat → List Nat} {ba cp : Nat → Nat} {ga gb gc : Nat} {Q : Option Value → HH → Prop} (hI : CI G h x o T p len hand op gone bl ad na ch ba cp ga gb gc) {y : Nat} (hy : s_many T ≠ 300 → 1 ≤ y ∧ y < 300 ∧ T.1 y = 0) (hbk : ∀ q ∈ bl, T.1 q.2 ≠ 0) (hsp : ∀ e, e < 300 → T.1 e = 2 → e ≠ 0 → T.2.1 e ≠ e) (q0 : s_can T p hand len (s_many T) = none → ∀ h', CI G h' x o T p 0 hand op gone bl ad na ch ba cp ga gb gc → CFr o h h' → Q (some (.int (nI 0))) h') (q1 : ∀ d, s_can T p hand len (s_many T) = some d → ∀ h' ad' na' ch' ba' cp', CI G h' x o (s_new T y 2 d p len) p 0 hand op gone bl ad' na' ch' ba' cp' ga gb gc → CFr o h h' → Q (some (.int (nI 1))) h') : V G mP_make 0 (lv_args 0 [.ref x]) [] h 2 65 Q := by
  obtain ⟨hNK, hP, hO, hX, hC, hB⟩ := id hI
  obtain ⟨ht, htk, hca, hln, hcs, hck, hch, hl2, hp⟩ := id hX
  obtain ⟨a1, a2, a3, a4, a5, a6, a7, a8, a9⟩ := id hP
  first | refine V.aload_n dP_make_0 rfl ?_ | refine V.aload_nN dP_make_0 rfl ?_
  refine V.callVk (kd := 0) 0 _ 0 _ [] dP_make_1 okP_homeOfNew n_P_64 a1 a2 rfl imP_homeOfNew seP_homeOfNew_P (by decide) (by decide) rfl rfl (Nat.le_of_ble_eq_true rfl) (Nat.le_of_ble_eq_true rfl) (Nat.le_of_eq (Nat.zero_add _)) (Nat.le_of_eq (Nat.zero_add _)) (k_new hP hX hC (fun hr => ?_) (fun d hr hd h2 => ?_))
  · first | refine V.astore_n dP_make_4 (by decide) ?_ | refine V.astore_nN dP_make_4 (by decide) ?_
    first | refine V.aload_n dP_make_5 rfl ?_ | refine V.aload_nN dP_make_5 rfl ?_
    refine V.ifnullN (tgt := 37) dP_make_6 (by decide) ?_
    first | refine V.aload_n dP_make_37 rfl ?_ | refine V.aload_nN dP_make_37 rfl ?_
    refine V.getk dP_make_38 a1 a2 f_P_10_0 a3 ?_
    refine V.callVk (kd := 1) 0 _ 0 _ [] dP_make_41 okT_clear n_P_61 ht htk rfl imT_clear seT_clear_T (by decide) (by decide) rfl rfl (Nat.le_of_ble_eq_true rfl) (Nat.le_of_ble_eq_true rfl) (Nat.le_of_eq (Nat.zero_add _)) (Nat.le_of_eq (Nat.zero_add _)) (k_clear hX (fun h6 e6 => ?_))
    obtain ⟨hI6, hF6⟩ := hI.clr e6
    first | refine V.aload_n dP_make_44 rfl ?_ | refine V.aload_nN dP_make_44 rfl ?_
    refine V.ifnullN (tgt := 52) dP_make_45 (by decide) ?_
    refine V.iconst (v := (nI 0)) dP_make_52 (by decide) ?_
    refine V.ireturn dP_make_53 rfl rfl ?_
    exact q0 hr h6 hI6 hF6
  · have hc := s_can_home hr
    have hyy := hy hc.2.2.1
    have hnl : len - s_last p len ≤ 60 := hc.2.1.2.1
    have hll := s_last_le p len
    have hmy : y ∉ ch d := fun z => ((hC.mem hd h2).mp z).2.2.1 hyy.2.2
    first | refine V.astore_n dP_make_4 (by decide) ?_ | refine V.astore_nN dP_make_4 (by decide) ?_
    first | refine V.aload_n dP_make_5 rfl ?_ | refine V.aload_nN dP_make_5 rfl ?_
    refine V.ifnull dP_make_6 ?_
    first | refine V.aload_n dP_make_9 rfl ?_ | refine V.aload_nN dP_make_9 rfl ?_
    refine V.newk (c2 := 1) (s2 := 60) dP_make_10 w_P_16 (by omega) (by omega) rfl ?_
    intro h1 e1 z1
    have hF1 : FK (fun _ _ => False) h h1 := by (rw [e1]; exact FK.new)
    have hI1 := hI.fk0 hF1
    obtain ⟨hNK1, hP1, hO1, hX1, hC1, hB1⟩ := id hI1
    have k1 : h1.1 h.2.2 = (2, 5) := by (rw [e1]; exact hn_k rfl)
    refine V.dup dP_make_13 rfl ?_
    first | refine V.aload_n dP_make_14 rfl ?_ | refine V.aload_nN dP_make_14 rfl ?_
    refine V.getk dP_make_15 hP1.1 hP1.2.1 f_P_10_0 hP1.2.2.1 ?_
    refine V.callVk (kd := 1) 1 0 (len - s_last p len) 0 [] dP_make_18 okT_lastName n_P_68 hX1.1 hX1.2.1 rfl imT_lastName seT_lastName_T (by decide) (by decide) rfl rfl (Nat.le_of_ble_eq_true rfl) (Nat.le_of_ble_eq_true rfl) (by omega) (by omega) (k_lastName hX1 hnl (fun g2 hN2 => ?_))
    have hF2 := hF1.tr hN2.fk
    have z2 : g2.2.2 = h1.2.2 + 1 := hN2.1
    have k2 : g2.1 h.2.2 = (2, 5) := by (rw [(hN2.2.2.2 _ (by omega)).1]; exact k1)
    have ha2 : g_0 G ≤ h.2.2 ∧ h.2.2 < g2.2.2 := by omega
    refine V.callI 0 _ 0 _ [_] dP_make_21 okD_init n_P_18 rfl rfl imD_init (by decide) (by decide) rfl rfl (Nat.le_of_ble_eq_true rfl) (Nat.le_of_ble_eq_true rfl) (Nat.le_of_eq (Nat.zero_add _)) (Nat.le_of_eq (Nat.zero_add _)) (k_D_init (a := h.2.2) (n := h1.2.2) ha2 (by rw [k2]) (fun h3 hD3 => ?_))
    have hF3 := hF2.aft (FK.of (S := fun b _ => b = h.2.2) hD3.1 hD3.2.1 (fun b j hn => hD3.2.2.2.2.2.2 b j hn)) (fun b j z => by omega)
    have hI3 := hI.fk0 hF3
    obtain ⟨hNK3, hP3, hO3, hX3, hC3, hB3⟩ := id hI3
    have z3 : h3.2.2 = g2.2.2 := hD3.2.1
    have hfr : ∀ e, e < 300 → T.1 e ≠ 0 → ad e ≠ h.2.2 := fun e he hl z => by (have := (hC.en he hl).1.2; omega)
    have hE3 : EN G h3 h.2.2 h1.2.2 (len - s_last p len) (fun k => p (s_last p len + k)) := by
      refine ⟨⟨ha2.1, by omega⟩, by rw [hD3.1, k2]; exact Or.inl rfl, hD3.2.2.1, ⟨by omega, by omega⟩, by rw [hD3.1]; exact hN2.2.1, hnl, fun k hk => ?_, fun k hk => hp _ (by omega)⟩
      rw [hD3.2.2.2.2.2.2 _ _ (by omega)]
      exact hN2.2.2.1 k hk
    refine V.callVk (kd := 2) 0 _ 0 _ [_] dP_make_24 okD_admit n_P_72 (hC3.dir hd h2).1 (hC3.dir hd h2).2 rfl imD_admit seD_admit_D (by decide) (by decide) rfl rfl (Nat.le_of_ble_eq_true rfl) (Nat.le_of_ble_eq_true rfl) (Nat.le_of_eq (Nat.zero_add _)) (Nat.le_of_eq (Nat.zero_add _)) (k_admit (y := y) (nf := fun k => p (s_last p len + k)) (hC3.dir hd h2) (hC3.2.2.2.2.2 d hd h2).1 (hC3.2.2.2.2.2 d hd h2).2.1 (hC3.len3 hd h2) (hC3.ens hd h2) hE3 (hfr d hd (by omega)) (fun i hi => ⟨hfr i ((hC.mem hd h2).mp hi).2.1 ((hC.mem hd h2).mp hi).2.2.1, hC.nself hd h2 hsp i hi⟩) (hC3.inj hd h2) (hC3.nodup hd h2) hmy (fun l1 l2 hl b1 b2 h4 hA4 => ?_))
    have hT4 := hA4.tree (hC3.dir hd h2).2 hE3.2.1 (fun i hi => (hC3.ens hd h2 i hi).2.1)
    have hP4 := hP3.fk hT4 (fun j z => by (have := hP3.2.1; omega))
    first | refine V.aload_n dP_make_27 rfl ?_ | refine V.aload_nN dP_make_27 rfl ?_
    refine V.dup dP_make_28 rfl ?_
    refine V.getk dP_make_29 hP4.1 hP4.2.1 f_P_36_0 hP4.2.2.2.2.2.2.2.1 ?_
    refine V.iconst (v := (nI 1)) dP_make_32 (by decide) ?_
    refine V.iaddN dP_make_33 ?_
    refine V.putk dP_make_34 hP4.1 hP4.2.1 p_P_36_0 rfl rfl ?_
    intro h5 e5
    obtain ⟨hI5, hF5⟩ := hI3.add (b := 0) hd h2 ⟨hyy.1, hyy.2.1⟩ hyy.2.2 (Or.inr rfl) hE3 (by rw [hD3.1, k2]) (by omega) hfr (fun e w1 w2 => by (have := (hO.2.2 e w1 w2).1.1.2; omega)) hl b1 b2 hc.2.2.2 hA4 (fun _ => ⟨hD3.2.2.2.2.1, hD3.2.2.2.2.2.1⟩) hbk (fun z => by omega)
    rw [← e5] at hI5 hF5
    obtain ⟨hNK5, hP5, hO5, hX5, hC5, hB5⟩ := id hI5
    first | refine V.aload_n dP_make_37 rfl ?_ | refine V.aload_nN dP_make_37 rfl ?_
    refine V.getk dP_make_38 hP5.1 hP5.2.1 f_P_10_0 hP5.2.2.1 ?_
    refine V.callVk (kd := 1) 0 _ 0 _ [] dP_make_41 okT_clear n_P_61 hX5.1 hX5.2.1 rfl imT_clear seT_clear_T (by decide) (by decide) rfl rfl (Nat.le_of_ble_eq_true rfl) (Nat.le_of_ble_eq_true rfl) (Nat.le_of_eq (Nat.zero_add _)) (Nat.le_of_eq (Nat.zero_add _)) (k_clear hX5 (fun h6 e6 => ?_))
    obtain ⟨hI6, hF6⟩ := hI5.clr e6
    first | refine V.aload_n dP_make_44 rfl ?_ | refine V.aload_nN dP_make_44 rfl ?_
    refine V.ifnull dP_make_45 ?_
    refine V.iconst (v := (nI 1)) dP_make_48 (by decide) ?_
    refine V.goto (tgt := 53) dP_make_49 (by decide) ?_
    refine V.ireturn dP_make_53 rfl rfl ?_
    exact q1 d hr h6 _ _ _ _ _ hI6 (((hF3.cfr hNK (fun _ _ _ z => z.elim)).tr hF5).tr hF6)
  skip
set_option maxHeartbeats 4000000 in
set_option maxRecDepth 100000 in
/-- PathTree.newFile -/
theorem k_newFile {G : GG} {h : HH} {x o : Nat} {T : TT} {p : Nat → Nat} {len hand : Nat} {op : Option Nat} {gone : Bool} {bl : List (Nat × Nat)} {ad na : Nat → Nat} {ch : Nat → List Nat} {ba cp : Nat → Nat} {ga gb gc : Nat} {Q : Option Value → HH → Prop} {d : Nat} (hI : CI G h x o T p len hand op gone bl ad na ch ba cp ga gb gc) {y : Nat} (hy : s_many T ≠ 300 → 1 ≤ y ∧ y < 300 ∧ T.1 y = 0) (hbk : ∀ q ∈ bl, T.1 q.2 ≠ 0) (hsp : ∀ e, e < 300 → T.1 e = 2 → e ≠ 0 → T.2.1 e ≠ e) (hr : s_can T p hand len (s_many T) = some d) (hd : d < 300) (h2 : T.1 d = 2) (hQ : ∀ h' ad' na' ch' ba' cp', CI G h' x o (s_new T y 1 d p len) p len hand op gone bl ad' na' ch' ba' cp' ga gb gc → CFr o h h' → Q (some (.ref (ad' y))) h') : V G mP_newFile 0 (lv_args 0 [.ref x, .ref (ad d)]) [] h 3 81 Q := by
  obtain ⟨hNK, hP, hO, hX, hC, hB⟩ := id hI
  obtain ⟨ht, htk, hca, hln, hcs, hck, hch, hl2, hp⟩ := id hX
  obtain ⟨a1, a2, a3, a4, a5, a6, a7, a8, a9⟩ := id hP
  have hc := s_can_home hr
  have hyy := hy hc.2.2.1
  have hnl : len - s_last p len ≤ 60 := hc.2.1.2.1
  have hll := s_last_le p len
  have hmy : y ∉ ch d := fun z => ((hC.mem hd h2).mp z).2.2.1 hyy.2.2
  refine V.newk (c2 := 2) (s2 := 76) dP_newFile_0 w_P_76 (by omega) (by omega) rfl ?_
  intro h1 e1 z1
  have hF1 : FK (fun _ _ => False) h h1 := by (rw [e1]; exact FK.new)
  have hI1 := hI.fk0 hF1
  obtain ⟨hNK1, hP1, hO1, hX1, hC1, hB1⟩ := id hI1
  have k1 : h1.1 h.2.2 = (3, 5) := by (rw [e1]; exact hn_k rfl)
  refine V.dup dP_newFile_3 rfl ?_
  first | refine V.aload_n dP_newFile_4 rfl ?_ | refine V.aload_nN dP_newFile_4 rfl ?_
  refine V.getk dP_newFile_5 hP1.1 hP1.2.1 f_P_10_0 hP1.2.2.1 ?_
  refine V.callVk (kd := 1) 1 1 (len - s_last p len) 16 [] dP_newFile_8 okT_lastName n_P_68 hX1.1 hX1.2.1 rfl imT_lastName seT_lastName_T (by decide) (by decide) rfl rfl (Nat.le_of_ble_eq_true rfl) (Nat.le_of_ble_eq_true rfl) (by omega) (by omega) (k_lastName hX1 hnl (fun g2 hN2 => ?_))
  have hF2 := hF1.tr hN2.fk
  have z2 : g2.2.2 = h1.2.2 + 1 := hN2.1
  have k2 : g2.1 h.2.2 = (3, 5) := by (rw [(hN2.2.2.2 _ (by omega)).1]; exact k1)
  have ha2 : g_0 G ≤ h.2.2 ∧ h.2.2 < g2.2.2 := by omega
  refine V.callI 1 0 16 0 [_] dP_newFile_11 okF_init n_P_169 rfl rfl imF_init (by decide) (by decide) rfl rfl (Nat.le_of_ble_eq_true rfl) (Nat.le_of_ble_eq_true rfl) (by omega) (by omega) (k_F_init (a := h.2.2) (n := h1.2.2) ha2 (by rw [k2]) (fun h3 hD3 => ?_))
  have hF3 : FK (fun _ _ => False) h h3 := hF2.aft (S := fun b _ => b = h.2.2) ⟨by rw [hD3.1]; exact Nat.le_succ _, hD3.2.2.1, fun b j hb hn => hD3.2.2.2.2.2.2.2 b j hb hn⟩ (fun b j z => by omega)
  have hI3 := hI.fk0 hF3
  obtain ⟨hNK3, hP3, hO3, hX3, hC3, hB3⟩ := id hI3
  have z3 : h3.2.2 = g2.2.2 + 1 := hD3.1
  have hfr : ∀ e, e < 300 → T.1 e ≠ 0 → ad e ≠ h.2.2 := fun e he hl z => by (have := (hC.en he hl).1.2; omega)
  have hE3 : EN G h3 h.2.2 h1.2.2 (len - s_last p len) (fun k => p (s_last p len + k)) := by
    refine ⟨⟨ha2.1, by omega⟩, by rw [hD3.2.2.1 _ ha2.2, k2]; exact Or.inr rfl, hD3.2.2.2.1, ⟨by omega, by omega⟩, by rw [hD3.2.2.1 _ (by omega)]; exact hN2.2.1, hnl, fun k hk => ?_, fun k hk => hp _ (by omega)⟩
    rw [hD3.2.2.2.2.2.2.2 _ _ (by omega) (by omega)]
    exact hN2.2.2.1 k hk
  have hB9 : FB G h3 h.2.2 g2.2.2 16 [] := ⟨⟨ha2.1, by omega⟩, by rw [hD3.2.2.1 _ ha2.2, k2], hD3.2.2.2.2.2.1, hD3.2.2.2.2.2.2.1, ⟨by omega, by omega⟩, hD3.2.1, by omega, Nat.zero_le _, fun k hk => absurd hk (Nat.not_lt_zero k), fun v hv => absurd hv List.not_mem_nil⟩
  first | refine V.astore_n dP_newFile_14 (by decide) ?_ | refine V.astore_nN dP_newFile_14 (by decide) ?_
  first | refine V.aload_n dP_newFile_15 rfl ?_ | refine V.aload_nN dP_newFile_15 rfl ?_
  first | refine V.aload_n dP_newFile_16 rfl ?_ | refine V.aload_nN dP_newFile_16 rfl ?_
  refine V.callVk (kd := 2) 0 _ 0 _ [_] dP_newFile_17 okD_admit n_P_72 (hC3.dir hd h2).1 (hC3.dir hd h2).2 rfl imD_admit seD_admit_D (by decide) (by decide) rfl rfl (Nat.le_of_ble_eq_true rfl) (Nat.le_of_ble_eq_true rfl) (Nat.le_of_eq (Nat.zero_add _)) (Nat.le_of_eq (Nat.zero_add _)) (k_admit (y := y) (nf := fun k => p (s_last p len + k)) (hC3.dir hd h2) (hC3.2.2.2.2.2 d hd h2).1 (hC3.2.2.2.2.2 d hd h2).2.1 (hC3.len3 hd h2) (hC3.ens hd h2) hE3 (hfr d hd (by omega)) (fun i hi => ⟨hfr i ((hC.mem hd h2).mp hi).2.1 ((hC.mem hd h2).mp hi).2.2.1, hC.nself hd h2 hsp i hi⟩) (hC3.inj hd h2) (hC3.nodup hd h2) hmy (fun l1 l2 hl b1 b2 h4 hA4 => ?_))
  have hT4 := hA4.tree (hC3.dir hd h2).2 hE3.2.1 (fun i hi => (hC3.ens hd h2 i hi).2.1)
  have hP4 := hP3.fk hT4 (fun j z => by (have := hP3.2.1; omega))
  first | refine V.aload_n dP_newFile_20 rfl ?_ | refine V.aload_nN dP_newFile_20 rfl ?_
  refine V.dup dP_newFile_21 rfl ?_
  refine V.getk dP_newFile_22 hP4.1 hP4.2.1 f_P_32_0 hP4.2.2.2.2.2.2.1 ?_
  refine V.iconst (v := (nI 1)) dP_newFile_25 (by decide) ?_
  refine V.iaddN dP_newFile_26 ?_
  refine V.putk dP_newFile_27 hP4.1 hP4.2.1 p_P_32_0 rfl rfl ?_
  intro h5 e5
  obtain ⟨hI5, hF5⟩ := hI3.add (b := g2.2.2) hd h2 ⟨hyy.1, hyy.2.1⟩ hyy.2.2 (Or.inl rfl) hE3 (by rw [hD3.2.2.1 _ ha2.2, k2]) (by omega) hfr (fun e w1 w2 => by (have := (hO.2.2 e w1 w2).1.1.2; omega)) hl b1 b2 hc.2.2.2 hA4 (fun z => by omega) hbk (fun _ => ⟨hB9, by (have := hNK.1; omega), fun e he w z => by (have := (hB.1 e he w).1.2.2.2.2.1.2; omega)⟩)
  rw [← e5] at hI5 hF5
  first | refine V.aload_n dP_newFile_30 rfl ?_ | refine V.aload_nN dP_newFile_30 rfl ?_
  first | refine V.areturn dP_newFile_31 rfl (by simp) ?_ | refine V.areturnN dP_newFile_31 rfl (by simp) ?_
  have hq := hQ h5 _ _ _ _ _ hI5 ((hF3.cfr hNK (fun _ _ _ z => z.elim)).tr hF5)
  rw [fu_s] at hq
  exact hq
set_option maxHeartbeats 4000000 in
set_option maxRecDepth 100000 in
/-- PathTree.open -/
theorem k_open {G : GG} {h : HH} {x o : Nat} {T : TT} {p : Nat → Nat} {len hand : Nat} {op : Option Nat} {gone : Bool} {bl : List (Nat × Nat)} {ad na : Nat → Nat} {ch : Nat → List Nat} {ba cp : Nat → Nat} {ga gb gc : Nat} {Q : Option Value → HH → Prop} (hI : CI G h x o T p len hand op gone bl ad na ch ba cp ga gb gc) {y : Nat} (hy : s_many T ≠ 300 → 1 ≤ y ∧ y < 300 ∧ T.1 y = 0) (hbk : ∀ q ∈ bl, T.1 q.2 ≠ 0) (hsp : ∀ e, e < 300 → T.1 e = 2 → e ≠ 0 → T.2.1 e ≠ e) (qA : (∃ e, s_lead T p hand len = some e ∧ T.1 e ≠ 1) ∨ (s_lead T p hand len = none ∧ s_can T p hand len (s_many T) = none) → ∀ h', CI G h' x o T p 0 hand none false bl ad na ch ba cp ga gb gc → CFr o h h' → Q (some (.int (nI 0))) h') (qB : ∀ e, s_lead T p hand len = some e → T.1 e = 1 → ∀ h', CI G h' x o T p 0 hand (some e) false bl ad na ch ba cp ga gb gc → CFr o h h' → Q (some (.int (nI 1))) h') (qC : s_lead T p hand len = none → ∀ d, s_can T p hand len (s_many T) = some d → ∀ h' ad' na' ch' ba' cp', CI G h' x o (s_new T y 1 d p len) p 0 hand (some y) false bl ad' na' ch' ba' cp' ga gb gc → CFr o h h' → Q (some (.int (nI 1))) h') : V G mP_open 0 (lv_args 0 [.ref x]) [] h 3 81 Q := by
  obtain ⟨hNK, hP, hO, hX, hC, hB⟩ := id hI
  obtain ⟨ht, htk, hca, hln, hcs, hck, hch, hl2, hp⟩ := id hX
  obtain ⟨a1, a2, a3, a4, a5, a6, a7, a8, a9⟩ := id hP
  first | refine V.aload_n dP_open_0 rfl ?_ | refine V.aload_nN dP_open_0 rfl ?_
  refine V.callVk (kd := 0) 0 _ 0 _ [] dP_open_1 okP_target n_P_57 a1 a2 rfl imP_target seP_target_P (by decide) (by decide) rfl rfl (Nat.le_of_ble_eq_true rfl) (Nat.le_of_ble_eq_true rfl) (Nat.le_of_eq (Nat.zero_add _)) (Nat.le_of_eq (Nat.zero_add _)) (k_target hP hX hC (fun hr => ?_) (fun e hr he hl => ?_))
  · first | refine V.astore_n dP_open_4 (by decide) ?_ | refine V.astore_nN dP_open_4 (by decide) ?_
    first | refine V.aload_n dP_open_5 rfl ?_ | refine V.aload_nN dP_open_5 rfl ?_
    refine V.null dP_open_6 ?_
    refine V.putk dP_open_7 a1 a2 p_P_28_0 rfl rfl ?_
    intro h7 e7
    obtain ⟨hI7, hF7⟩ := hI.op_ (r := none) (v := .null) (fun e z => by (cases z)) rfl
    rw [← e7] at hI7 hF7
    obtain ⟨hNK7, hP7, hO7, hX7, hC7, hB7⟩ := id hI7
    first | refine V.aload_n dP_open_10 rfl ?_ | refine V.aload_nN dP_open_10 rfl ?_
    refine V.instN dP_open_11 ?_
    refine V.if_eq (tgt := 30) dP_open_14 (by decide) (fun c_14 => ?_) (fun c_14 => ?_)
    · skip
      first | refine V.aload_n dP_open_30 rfl ?_ | refine V.aload_nN dP_open_30 rfl ?_
      refine V.ifnonnullN dP_open_31 ?_
      first | refine V.aload_n dP_open_34 rfl ?_ | refine V.aload_nN dP_open_34 rfl ?_
      refine V.callVk (kd := 0) 0 _ 0 _ [] dP_open_35 okP_homeOfNew n_P_64 hP7.1 hP7.2.1 rfl imP_homeOfNew seP_homeOfNew_P (by decide) (by decide) rfl rfl (Nat.le_of_ble_eq_true rfl) (Nat.le_of_ble_eq_true rfl) (Nat.le_of_eq (Nat.zero_add _)) (Nat.le_of_eq (Nat.zero_add _)) (k_new hP7 hX7 hC7 (fun hc => ?_) (fun d hc hd h2 => ?_))
      · first | refine V.astore_n dP_open_38 (by decide) ?_ | refine V.astore_nN dP_open_38 (by decide) ?_
        first | refine V.aload_n dP_open_39 rfl ?_ | refine V.aload_nN dP_open_39 rfl ?_
        first | refine V.aload_n dP_open_40 rfl ?_ | refine V.aload_nN dP_open_40 rfl ?_
        refine V.ifnonnullN dP_open_41 ?_
        refine V.null dP_open_44 ?_
        refine V.goto (tgt := 53) dP_open_45 (by decide) ?_
        refine V.putk dP_open_53 hP7.1 hP7.2.1 p_P_28_0 rfl rfl ?_
        intro h8 e8
        obtain ⟨hI8, hF8⟩ := hI7.op_ (r := none) (v := .null) (fun f z => by (cases z)) rfl
        rw [← e8] at hI8 hF8
        obtain ⟨hNK8, hP8, hO8, hX8, hC8, hB8⟩ := id hI8
        first | refine V.aload_n dP_open_56 rfl ?_ | refine V.aload_nN dP_open_56 rfl ?_
        refine V.getk dP_open_57 hP8.1 hP8.2.1 f_P_10_0 hP8.2.2.1 ?_
        refine V.callVk (kd := 1) 0 _ 0 _ [] dP_open_60 okT_clear n_P_61 hX8.1 hX8.2.1 rfl imT_clear seT_clear_T (by decide) (by decide) rfl rfl (Nat.le_of_ble_eq_true rfl) (Nat.le_of_ble_eq_true rfl) (Nat.le_of_eq (Nat.zero_add _)) (Nat.le_of_eq (Nat.zero_add _)) (k_clear hX8 (fun h9 e9 => ?_))
        obtain ⟨hI9, hF9⟩ := hI8.clr e9
        obtain ⟨hNK9, hP9, hO9, hX9, hC9, hB9⟩ := id hI9
        have h39 : h9.2.1 x 3 = .null := hO9.1
        first | refine V.aload_n dP_open_63 rfl ?_ | refine V.aload_nN dP_open_63 rfl ?_
        refine V.getk dP_open_64 hP9.1 hP9.2.1 f_P_28_0 h39 ?_
        refine V.ifnullN (tgt := 74) dP_open_67 (by decide) ?_
        refine V.iconst (v := (nI 0)) dP_open_74 (by decide) ?_
        refine V.ireturn dP_open_75 rfl rfl ?_
        exact qA (Or.inr ⟨hr, hc⟩) h9 hI9 ((hF7.tr hF8).tr hF9)
      · first | refine V.astore_n dP_open_38 (by decide) ?_ | refine V.astore_nN dP_open_38 (by decide) ?_
        first | refine V.aload_n dP_open_39 rfl ?_ | refine V.aload_nN dP_open_39 rfl ?_
        first | refine V.aload_n dP_open_40 rfl ?_ | refine V.aload_nN dP_open_40 rfl ?_
        refine V.ifnonnull (tgt := 48) dP_open_41 (by decide) ?_
        first | refine V.aload_n dP_open_48 rfl ?_ | refine V.aload_nN dP_open_48 rfl ?_
        first | refine V.aload_n dP_open_49 rfl ?_ | refine V.aload_nN dP_open_49 rfl ?_
        refine V.callVk (kd := 0) 3 0 81 0 [_] dP_open_50 okP_newFile n_P_78 hP7.1 hP7.2.1 rfl imP_newFile seP_newFile_P (by decide) (by decide) rfl rfl (Nat.le_of_ble_eq_true rfl) (Nat.le_of_ble_eq_true rfl) (by omega) (by omega) (k_newFile hI7 hy hbk hsp hc hd h2 (fun h10 ad2 na2 ch2 ba2 cp2 hI10 hF10 => ?_))
        obtain ⟨hNK10, hP10, hO10, hX10, hC10, hB10⟩ := id hI10
        have hyy := hy (s_can_home hc).2.2.1
        refine V.putk dP_open_53 hP10.1 hP10.2.1 p_P_28_0 rfl rfl ?_
        intro h8 e8
        obtain ⟨hI8, hF8⟩ := hI10.op_ (r := some y) (v := .ref (ad2 y)) (fun f z => by (cases z; exact ⟨hyy.2.1, fu_s⟩)) rfl
        rw [← e8] at hI8 hF8
        obtain ⟨hNK8, hP8, hO8, hX8, hC8, hB8⟩ := id hI8
        first | refine V.aload_n dP_open_56 rfl ?_ | refine V.aload_nN dP_open_56 rfl ?_
        refine V.getk dP_open_57 hP8.1 hP8.2.1 f_P_10_0 hP8.2.2.1 ?_
        refine V.callVk (kd := 1) 0 _ 0 _ [] dP_open_60 okT_clear n_P_61 hX8.1 hX8.2.1 rfl imT_clear seT_clear_T (by decide) (by decide) rfl rfl (Nat.le_of_ble_eq_true rfl) (Nat.le_of_ble_eq_true rfl) (Nat.le_of_eq (Nat.zero_add _)) (Nat.le_of_eq (Nat.zero_add _)) (k_clear hX8 (fun h9 e9 => ?_))
        obtain ⟨hI9, hF9⟩ := hI8.clr e9
        obtain ⟨hNK9, hP9, hO9, hX9, hC9, hB9⟩ := id hI9
        have h39 : h9.2.1 x 3 = .ref (ad2 y) := hO9.1
        first | refine V.aload_n dP_open_63 rfl ?_ | refine V.aload_nN dP_open_63 rfl ?_
        refine V.getk dP_open_64 hP9.1 hP9.2.1 f_P_28_0 h39 ?_
        refine V.ifnull dP_open_67 ?_
        refine V.iconst (v := (nI 1)) dP_open_70 (by decide) ?_
        refine V.goto (tgt := 75) dP_open_71 (by decide) ?_
        refine V.ireturn dP_open_75 rfl rfl ?_
        exact qC hr d hc h9 _ _ _ _ _ hI9 (((hF7.tr hF10).tr hF8).tr hF9)
      skip
    · skip
      exact absurd rfl c_14
  · have hk2 := (hC.1 e he).1
    by_cases h2 : T.1 e = 2
    · first | refine V.astore_n dP_open_4 (by decide) ?_ | refine V.astore_nN dP_open_4 (by decide) ?_
      first | refine V.aload_n dP_open_5 rfl ?_ | refine V.aload_nN dP_open_5 rfl ?_
      refine V.null dP_open_6 ?_
      refine V.putk dP_open_7 a1 a2 p_P_28_0 rfl rfl ?_
      intro h7 e7
      obtain ⟨hI7, hF7⟩ := hI.op_ (r := none) (v := .null) (fun e z => by (cases z)) rfl
      rw [← e7] at hI7 hF7
      obtain ⟨hNK7, hP7, hO7, hX7, hC7, hB7⟩ := id hI7
      have hdk := hC7.dir he h2
      first | refine V.aload_n dP_open_10 rfl ?_ | refine V.aload_nN dP_open_10 rfl ?_
      refine V.instn dP_open_11 hdk.1 hdk.2 rfl cl_P_76 (by decide) ?_
      refine V.if_eq (tgt := 30) dP_open_14 (by decide) (fun c_14 => ?_) (fun c_14 => ?_)
      · skip
        first | refine V.aload_n dP_open_30 rfl ?_ | refine V.aload_nN dP_open_30 rfl ?_
        refine V.ifnonnull (tgt := 56) dP_open_31 (by decide) ?_
        first | refine V.aload_n dP_open_56 rfl ?_ | refine V.aload_nN dP_open_56 rfl ?_
        refine V.getk dP_open_57 hP7.1 hP7.2.1 f_P_10_0 hP7.2.2.1 ?_
        refine V.callVk (kd := 1) 0 _ 0 _ [] dP_open_60 okT_clear n_P_61 hX7.1 hX7.2.1 rfl imT_clear seT_clear_T (by decide) (by decide) rfl rfl (Nat.le_of_ble_eq_true rfl) (Nat.le_of_ble_eq_true rfl) (Nat.le_of_eq (Nat.zero_add _)) (Nat.le_of_eq (Nat.zero_add _)) (k_clear hX7 (fun h9 e9 => ?_))
        obtain ⟨hI9, hF9⟩ := hI7.clr e9
        obtain ⟨hNK9, hP9, hO9, hX9, hC9, hB9⟩ := id hI9
        have h39 : h9.2.1 x 3 = .null := hO9.1
        first | refine V.aload_n dP_open_63 rfl ?_ | refine V.aload_nN dP_open_63 rfl ?_
        refine V.getk dP_open_64 hP9.1 hP9.2.1 f_P_28_0 h39 ?_
        refine V.ifnullN (tgt := 74) dP_open_67 (by decide) ?_
        refine V.iconst (v := (nI 0)) dP_open_74 (by decide) ?_
        refine V.ireturn dP_open_75 rfl rfl ?_
        exact qA (Or.inl ⟨e, hr, by omega⟩) h9 hI9 (hF7.tr hF9)
      · skip
        exact absurd rfl c_14
    · have h1 : T.1 e = 1 := by omega
      first | refine V.astore_n dP_open_4 (by decide) ?_ | refine V.astore_nN dP_open_4 (by decide) ?_
      first | refine V.aload_n dP_open_5 rfl ?_ | refine V.aload_nN dP_open_5 rfl ?_
      refine V.null dP_open_6 ?_
      refine V.putk dP_open_7 a1 a2 p_P_28_0 rfl rfl ?_
      intro h7 e7
      obtain ⟨hI7, hF7⟩ := hI.op_ (r := none) (v := .null) (fun e z => by (cases z)) rfl
      rw [← e7] at hI7 hF7
      obtain ⟨hNK7, hP7, hO7, hX7, hC7, hB7⟩ := id hI7
      have hfk := hC7.file he h1
      first | refine V.aload_n dP_open_10 rfl ?_ | refine V.aload_nN dP_open_10 rfl ?_
      refine V.instk dP_open_11 hfk.1 hfk.2 rfl cl_P_76 ?_
      refine V.if_eq (tgt := 30) dP_open_14 (by decide) (fun c_14 => ?_) (fun c_14 => ?_)
      · skip
        exact absurd c_14 (by decide)
      · skip
        first | refine V.aload_n dP_open_17 rfl ?_ | refine V.aload_nN dP_open_17 rfl ?_
        refine V.castk dP_open_18 hfk.1 hfk.2 rfl cl_P_76 ?_
        first | refine V.astore_n dP_open_21 (by decide) ?_ | refine V.astore_nN dP_open_21 (by decide) ?_
        first | refine V.aload_n dP_open_22 rfl ?_ | refine V.aload_nN dP_open_22 rfl ?_
        first | refine V.aload_n dP_open_23 rfl ?_ | refine V.aload_nN dP_open_23 rfl ?_
        refine V.putk dP_open_24 hP7.1 hP7.2.1 p_P_28_0 rfl rfl ?_
        intro h8 e8
        obtain ⟨hI8, hF8⟩ := hI7.op_ (r := some e) (v := .ref (ad e)) (fun f z => by (cases z; exact ⟨he, h1⟩)) rfl
        rw [← e8] at hI8 hF8
        obtain ⟨hNK8, hP8, hO8, hX8, hC8, hB8⟩ := id hI8
        refine V.goto (tgt := 56) dP_open_27 (by decide) ?_
        first | refine V.aload_n dP_open_56 rfl ?_ | refine V.aload_nN dP_open_56 rfl ?_
        refine V.getk dP_open_57 hP8.1 hP8.2.1 f_P_10_0 hP8.2.2.1 ?_
        refine V.callVk (kd := 1) 0 _ 0 _ [] dP_open_60 okT_clear n_P_61 hX8.1 hX8.2.1 rfl imT_clear seT_clear_T (by decide) (by decide) rfl rfl (Nat.le_of_ble_eq_true rfl) (Nat.le_of_ble_eq_true rfl) (Nat.le_of_eq (Nat.zero_add _)) (Nat.le_of_eq (Nat.zero_add _)) (k_clear hX8 (fun h9 e9 => ?_))
        obtain ⟨hI9, hF9⟩ := hI8.clr e9
        obtain ⟨hNK9, hP9, hO9, hX9, hC9, hB9⟩ := id hI9
        have h39 : h9.2.1 x 3 = .ref (ad e) := hO9.1
        first | refine V.aload_n dP_open_63 rfl ?_ | refine V.aload_nN dP_open_63 rfl ?_
        refine V.getk dP_open_64 hP9.1 hP9.2.1 f_P_28_0 h39 ?_
        refine V.ifnull dP_open_67 ?_
        refine V.iconst (v := (nI 1)) dP_open_70 (by decide) ?_
        refine V.goto (tgt := 75) dP_open_71 (by decide) ?_
        refine V.ireturn dP_open_75 rfl rfl ?_
        exact qB e hr h1 h9 hI9 ((hF7.tr hF8).tr hF9)
  skip
