set_option maxHeartbeats 4000000 in
set_option maxRecDepth 100000 in
/-- PathTree.moveInto, from the release on -/
theorem k_mtail {G : GG} {h : HH} {x o : Nat} {T : TT} {p : Nat → Nat} {len hand : Nat} {bl : List (Nat × Nat)} {ad na : Nat → Nat} {ch : Nat → List Nat} {ba cp : Nat → Nat} {ga gb gc : Nat} {Q : Option Value → HH → Prop} {f d n nl : Nat} {nf : Nat → Nat} (hI : CI G h x o T p len hand (some f) false bl ad na ch ba cp ga gb gc) (hsp : ∀ e, e < 300 → T.1 e = 2 → e ≠ 0 → T.2.1 e ≠ e) (hf : f < 300) (hf1 : T.1 f = 1) (hd : d < 300) (hd2 : T.1 d = 2) (hN : NA G h x n nl nf) (hno : ∀ i, 1 ≤ i → i < 300 → T.1 i ≠ 0 → T.2.1 i = d → i ≠ f → ¬ (T.2.2.1 i = nl ∧ ∀ k, k < nl → T.2.2.2 i k = nf k)) (hQ : ∀ h' na' ch', CI G h' x o (T.1, fu T.2.1 f d, fu T.2.2.1 f nl, fn T.2.2.2 f nf) p len hand (some f) false bl ad na' ch' ba cp ga gb gc → CFr o h h' → Q (some (.int (nI 1))) h') : V G mP_moveInto 47 [(0, .ref x), (1, .ref (ad d)), (2, .ref n), (3, .ref (ad f))] [] h 0 0 Q := by
  obtain ⟨hNK, hP, hO, hX, hC, hB⟩ := id hI
  obtain ⟨ht, htk, hca, hln, hcs, hck, hch, hl2, hp⟩ := id hX
  obtain ⟨a1, a2, a3, a4, a5, a6, a7, a8, a9⟩ := id hP
  first | refine V.aload_n dP_moveInto_47 rfl ?_ | refine V.aload_nN dP_moveInto_47 rfl ?_
  refine V.callS 0 _ 0 _ [_] dP_moveInto_48 okP_detach n_P_170 stP_detach (by decide) (by decide) rfl rfl (Nat.le_of_ble_eq_true rfl) (Nat.le_of_ble_eq_true rfl) (Nat.le_of_eq (Nat.zero_add _)) (Nat.le_of_eq (Nat.zero_add _)) (k_detach hC hsp hf hf1 (fun l1 l2 hl h48 hR => ?_))
  have hfk := hC.file hf hf1
  have s1 : g_0 G ≤ ad f ∧ ad f < h48.2.2 := by (rw [hR.2.1]; exact hfk.1)
  have s2 : (h48.1 (ad f)).1 = 3 := by (rw [hR.1]; exact hfk.2)
  first | refine V.aload_n dP_moveInto_51 rfl ?_ | refine V.aload_nN dP_moveInto_51 rfl ?_
  first | refine V.aload_n dP_moveInto_52 rfl ?_ | refine V.aload_nN dP_moveInto_52 rfl ?_
  refine V.putk dP_moveInto_53 s1 s2 p_P_177_3 rfl rfl ?_
  intro h53 e53
  obtain ⟨hC2, hE2, hT2, hk2, hz2⟩ := hI.mv1 hf hf1 hN hl hR e53
  have hdf : d ≠ f := fun z => by (rw [z] at hd2; omega)
  have hd2' : (fu T.1 f 0) d = 2 := (fu_n hdf).trans hd2
  have hdd := hC2.dir hd hd2'
  have nlv : ∀ i, i ∈ (if d = T.2.1 f then l1 ++ l2 else ch d) → 1 ≤ i ∧ i < 300 ∧ i ≠ f ∧ T.1 i ≠ 0 ∧ T.2.1 i = d := fun i hi => by
    have hm := (hC2.mem hd hd2').mp hi
    have hm3 : fu T.1 f 0 i ≠ 0 := hm.2.2.1
    have z : i ≠ f := fun z => by (rw [z, fu_s] at hm3; exact hm3 rfl)
    rw [fu_n z] at hm3
    exact ⟨hm.1, hm.2.1, z, hm3, hm.2.2.2⟩
  first | refine V.aload_n dP_moveInto_56 rfl ?_ | refine V.aload_nN dP_moveInto_56 rfl ?_
  first | refine V.aload_n dP_moveInto_57 rfl ?_ | refine V.aload_nN dP_moveInto_57 rfl ?_
  refine V.callVk (kd := 2) 0 _ 0 _ [_] dP_moveInto_58 okD_admit n_P_72 hdd.1 hdd.2 rfl imD_admit seD_admit_D (by decide) (by decide) rfl rfl (Nat.le_of_ble_eq_true rfl) (Nat.le_of_ble_eq_true rfl) (Nat.le_of_eq (Nat.zero_add _)) (Nat.le_of_eq (Nat.zero_add _)) (k_admit (y := f) (l := if d = T.2.1 f then l1 ++ l2 else ch d) (ns := T.2.2.1) (nm := T.2.2.2) hdd (hC2.2.2.2.2.2 d hd hd2').1 (hC2.2.2.2.2.2 d hd hd2').2.1 (hC2.len3 hd hd2') (hC2.ens hd hd2') hE2 (fun z => hdf (hC.2.2.2.2.1 d f hd hf (by omega) (by omega) z)) (fun i hi => ⟨fun z => (nlv i hi).2.2.1 (hC.2.2.2.2.1 i f (nlv i hi).2.1 hf (nlv i hi).2.2.2.1 (by omega) z), fun z => by
    have h9 := hC.2.2.2.2.1 i d (nlv i hi).2.1 hd (nlv i hi).2.2.2.1 (by omega) z
    have h8 := nlv i hi
    rw [h9] at h8
    exact hsp d hd hd2 (by omega) h8.2.2.2.2⟩) (hC2.inj hd hd2') (hC2.nodup hd hd2') (fun z => (nlv f z).2.2.1 rfl) (fun m1 m2 hm b1 b2 h58 hA => ?_))
  refine V.iconst (v := (nI 1)) dP_moveInto_61 (by decide) ?_
  refine V.ireturn dP_moveInto_62 rfl rfl ?_
  obtain ⟨ch3, hI3, hF3⟩ := hI.mv2 hf hf1 hd hd2 hN.2.2.2.2.2 hC2 hE2 hT2 hk2 hz2 hm b1 b2 (fun i hi => hno i (nlv i hi).1 (nlv i hi).2.1 (nlv i hi).2.2.2.1 (nlv i hi).2.2.2.2 (nlv i hi).2.2.1) hA
  exact hQ h58 _ _ hI3 hF3
set_option maxHeartbeats 4000000 in
set_option maxRecDepth 100000 in
/-- PathTree.moveInto -/
theorem k_moveInto {G : GG} {h : HH} {x o : Nat} {T : TT} {p : Nat → Nat} {len hand : Nat} {bl : List (Nat × Nat)} {ad na : Nat → Nat} {ch : Nat → List Nat} {ba cp : Nat → Nat} {ga gb gc : Nat} {Q : Option Value → HH → Prop} {f d n nl : Nat} {nf : Nat → Nat} (hI : CI G h x o T p len hand (some f) false bl ad na ch ba cp ga gb gc) (hsp : ∀ e, e < 300 → T.1 e = 2 → e ≠ 0 → T.2.1 e ≠ e) (hf : f < 300) (hf1 : T.1 f = 1) (hd : d < 300) (hd2 : T.1 d = 2) (hN : NA G h x n nl nf) (q0 : ¬ s_mok T f (s_ent T nf d 0 nl) → Q (some (.int (nI 0))) h) (q1 : s_mok T f (s_ent T nf d 0 nl) → ∀ h' na' ch' ga' gb' gc', CI G h' x o ((s_mT T (s_ent T nf d 0 nl)).1, fu T.2.1 f d, fu T.2.2.1 f nl, fn T.2.2.2 f nf) p len hand (some f) false (s_mB bl (s_ent T nf d 0 nl)) ad na' ch' ba cp ga' gb' gc' → CFr o h h' → Q (some (.int (nI 1))) h') : V G mP_moveInto 0 (lv_args 0 [.ref x, .ref (ad d), .ref n, .ref (ad f)]) [] h 0 0 Q := by
  obtain ⟨hNK, hP, hO, hX, hC, hB⟩ := id hI
  obtain ⟨ht, htk, hca, hln, hcs, hck, hch, hl2, hp⟩ := id hX
  obtain ⟨a1, a2, a3, a4, a5, a6, a7, a8, a9⟩ := id hP
  have hdd := hC.dir hd hd2
  first | refine V.aload_n dP_moveInto_0 rfl ?_ | refine V.aload_nN dP_moveInto_0 rfl ?_
  first | refine V.aload_n dP_moveInto_1 rfl ?_ | refine V.aload_nN dP_moveInto_1 rfl ?_
  refine V.iconst (v := (nI 0)) dP_moveInto_2 (by decide) ?_
  first | refine V.aload_n dP_moveInto_3 rfl ?_ | refine V.aload_nN dP_moveInto_3 rfl ?_
  refine V.alenN dP_moveInto_4 hN.1 hN.2.1 rfl ?_
  refine V.callVk (kd := 2) 0 _ 0 _ [_, _, _] dP_moveInto_5 okD_entryCalled n_P_159 hdd.1 hdd.2 rfl imD_entryCalled seD_entryCalled_D (by decide) (by decide) rfl rfl (Nat.le_of_ble_eq_true rfl) (Nat.le_of_ble_eq_true rfl) (Nat.le_of_eq (Nat.zero_add _)) (Nat.le_of_eq (Nat.zero_add _)) (k_entryCalled hdd (hC.2.2.2.2.2 d hd hd2).1 (hC.ens hd hd2) hN.cs (fun hn => ?_) (fun i hi hs => ?_))
  · first | refine V.astore dP_moveInto_8 (by decide) ?_ | refine V.astoreN dP_moveInto_8 (by decide) ?_
    first | refine V.aload dP_moveInto_10 rfl ?_ | refine V.aloadN dP_moveInto_10 rfl ?_
    first | refine V.aload_n dP_moveInto_12 rfl ?_ | refine V.aload_nN dP_moveInto_12 rfl ?_
    refine V.acmp_eq (tgt := 24) (rx := none) (ry := some (ad f)) dP_moveInto_13 (by decide) (fun c_13 => ?_) (fun c_13 => ?_)
    · skip
      cases c_13
    · skip
      first | refine V.aload dP_moveInto_16 rfl ?_ | refine V.aloadN dP_moveInto_16 rfl ?_
      refine V.instN dP_moveInto_18 ?_
      refine V.if_eq (tgt := 26) dP_moveInto_21 (by decide) (fun c_21 => ?_) (fun c_21 => ?_)
      · skip
        first | refine V.aload dP_moveInto_26 rfl ?_ | refine V.aloadN dP_moveInto_26 rfl ?_
        refine V.instN dP_moveInto_28 ?_
        refine V.if_eq (tgt := 47) dP_moveInto_31 (by decide) (fun c_31 => ?_) (fun c_31 => ?_)
        · skip
          have hr : s_ent T nf d 0 nl = none := hC.ent0 hd hd2 hn
          rw [hr] at q1
          refine V.re [0, 1, 2, 3] rfl (k_mtail hI hsp hf hf1 hd hd2 hN (fun i i1 i2 i3 i4 i5 i6 => ?_) (fun h9 na9 ch9 hI9 hF9 => ?_))
          · exact hn i ((hC.mem hd hd2).mpr ⟨i1, i2, i3, i4⟩) ⟨i6.1, fun k hk => by (rw [Nat.zero_add]; exact i6.2 k hk)⟩
          · exact q1 ⟨fun z => by (cases z), fun t z => by (cases z)⟩ h9 na9 ch9 ga gb gc hI9 hF9
        · skip
          exact absurd rfl c_31
      · skip
        exact absurd rfl c_21
  · have hr : s_ent T nf d 0 nl = some i := hC.ent1 hd hd2 hi hs
    have hm := (hC.mem hd hd2).mp hi
    have hk2 := (hC.1 i hm.2.1).1
    by_cases h2 : T.1 i = 2
    · have hik := hC.dir hm.2.1 h2
      first | refine V.astore dP_moveInto_8 (by decide) ?_ | refine V.astoreN dP_moveInto_8 (by decide) ?_
      first | refine V.aload dP_moveInto_10 rfl ?_ | refine V.aloadN dP_moveInto_10 rfl ?_
      first | refine V.aload_n dP_moveInto_12 rfl ?_ | refine V.aload_nN dP_moveInto_12 rfl ?_
      refine V.acmp_eq (tgt := 24) (rx := some (ad i)) (ry := some (ad f)) dP_moveInto_13 (by decide) (fun c_13 => ?_) (fun c_13 => ?_)
      · skip
        have z : i = f := hC.2.2.2.2.1 i f hm.2.1 hf hm.2.2.1 (by omega) (Option.some.inj c_13)
        refine V.iconst (v := (nI 0)) dP_moveInto_24 (by decide) ?_
        refine V.ireturn dP_moveInto_25 rfl rfl ?_
        exact q0 (fun w => w.1 (by rw [hr, z]))
      · skip
        first | refine V.aload dP_moveInto_16 rfl ?_ | refine V.aloadN dP_moveInto_16 rfl ?_
        refine V.instk dP_moveInto_18 hik.1 hik.2 rfl cl_P_16 ?_
        refine V.if_eq (tgt := 26) dP_moveInto_21 (by decide) (fun c_21 => ?_) (fun c_21 => ?_)
        · skip
          exact absurd c_21 (by decide)
        · skip
          refine V.iconst (v := (nI 0)) dP_moveInto_24 (by decide) ?_
          refine V.ireturn dP_moveInto_25 rfl rfl ?_
          exact q0 (fun w => w.2 i hr h2)
    · have h1 : T.1 i = 1 := by omega
      have hik := hC.file hm.2.1 h1
      first | refine V.astore dP_moveInto_8 (by decide) ?_ | refine V.astoreN dP_moveInto_8 (by decide) ?_
      first | refine V.aload dP_moveInto_10 rfl ?_ | refine V.aloadN dP_moveInto_10 rfl ?_
      first | refine V.aload_n dP_moveInto_12 rfl ?_ | refine V.aload_nN dP_moveInto_12 rfl ?_
      refine V.acmp_eq (tgt := 24) (rx := some (ad i)) (ry := some (ad f)) dP_moveInto_13 (by decide) (fun c_13 => ?_) (fun c_13 => ?_)
      · skip
        have z : i = f := hC.2.2.2.2.1 i f hm.2.1 hf hm.2.2.1 (by omega) (Option.some.inj c_13)
        refine V.iconst (v := (nI 0)) dP_moveInto_24 (by decide) ?_
        refine V.ireturn dP_moveInto_25 rfl rfl ?_
        exact q0 (fun w => w.1 (by rw [hr, z]))
      · skip
        first | refine V.aload dP_moveInto_16 rfl ?_ | refine V.aloadN dP_moveInto_16 rfl ?_
        refine V.instn dP_moveInto_18 hik.1 hik.2 rfl cl_P_16 (by decide) ?_
        refine V.if_eq (tgt := 26) dP_moveInto_21 (by decide) (fun c_21 => ?_) (fun c_21 => ?_)
        · skip
          first | refine V.aload dP_moveInto_26 rfl ?_ | refine V.aloadN dP_moveInto_26 rfl ?_
          refine V.instk dP_moveInto_28 hik.1 hik.2 rfl cl_P_76 ?_
          refine V.if_eq (tgt := 47) dP_moveInto_31 (by decide) (fun c_31 => ?_) (fun c_31 => ?_)
          · skip
            exact absurd c_31 (by decide)
          · skip
            first | refine V.aload dP_moveInto_34 rfl ?_ | refine V.aloadN dP_moveInto_34 rfl ?_
            refine V.castk dP_moveInto_36 hik.1 hik.2 rfl cl_P_76 ?_
            first | refine V.astore dP_moveInto_39 (by decide) ?_ | refine V.astoreN dP_moveInto_39 (by decide) ?_
            first | refine V.aload_n dP_moveInto_41 rfl ?_ | refine V.aload_nN dP_moveInto_41 rfl ?_
            first | refine V.aload dP_moveInto_42 rfl ?_ | refine V.aloadN dP_moveInto_42 rfl ?_
            refine V.callVk (kd := 0) 0 _ 0 _ [_] dP_moveInto_44 okP_discard n_P_112 a1 a2 rfl imP_discard seP_discard_P (by decide) (by decide) rfl rfl (Nat.le_of_ble_eq_true rfl) (Nat.le_of_ble_eq_true rfl) (Nat.le_of_eq (Nat.zero_add _)) (Nat.le_of_eq (Nat.zero_add _)) (k_discard hI hsp hm.2.1 h1 (fun h44 ch2 ga2 gb2 gc2 hI44 hF44 hnk44 => ?_))
            have zif : i ≠ f := fun z => c_13 (by rw [z])
            rw [show (false || decide (some f = some i)) = false by (simp; exact fun z => zif z.symm)] at hI44
            have hfT : (fu T.1 i 0) f = 1 := (fu_n (fun z => zif z.symm)).trans hf1
            have hdi : d ≠ i := fun z => by (rw [z] at hd2; omega)
            have hdT : (fu T.1 i 0) d = 2 := (fu_n hdi).trans hd2
            have hN44 : NA G h44 x n nl nf := by
              refine ⟨⟨hN.1.1, Nat.lt_of_lt_of_le hN.1.2 hF44.1⟩, (hF44.2.1 n hN.1.2).trans hN.2.1, hN.2.2.1, fun k hk => ?_, hN.2.2.2.2.1, hN.2.2.2.2.2⟩
              exact (hnk44 n k hN.1.2 (by rw [hN.2.1])).trans (hN.2.2.2.1 k hk)
            rw [hr] at q1
            refine V.re [0, 1, 2, 3] rfl (k_mtail hI44 (fun e e1 e2 e3 => ?_) hf hfT hd hdT hN44 (fun k i1 i2 i3 i4 i5 i6 => ?_) (fun h9 na9 ch9 hI9 hF9 => ?_))
            · have e2 : fu T.1 i 0 e = 2 := e2
              have z : e ≠ i := fun z => by (rw [z, fu_s] at e2; omega)
              rw [fu_n z] at e2
              exact hsp e e1 e2 e3
            · have i3 : fu T.1 i 0 k ≠ 0 := i3
              have z : k ≠ i := fun z => by (rw [z, fu_s] at i3; exact i3 rfl)
              rw [fu_n z] at i3
              have h9 := hC.ent1 hd hd2 ((hC.mem hd hd2).mpr ⟨i1, i2, i3, i4⟩) (p := nf) (a := 0) (b := nl) ⟨i6.1, fun q hq => by (rw [Nat.zero_add]; exact i6.2 q hq)⟩
              exact z (Option.some.inj (h9.symm.trans hr))
            · exact q1 ⟨fun z => c_13 (by rw [Option.some.inj z]), fun t z => by (cases z; omega)⟩ h9 na9 ch9 ga2 gb2 gc2 hI9 (hF44.tr hF9)
        · skip
          exact absurd rfl c_21
  skip
