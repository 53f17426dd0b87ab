section ADDREM
variable {G : GG} {h h' : HH} {x o : Nat} {T : TT} {ad na : Nat → Nat} {ch : Nat → List Nat}
theorem AD.fk {d a y : Nat} {l l' : List Nat} (hA : AD ad h h' d a y l l') : FK (fun b j => (b = d ∧ (j = 3 ∨ j = 4)) ∨ (b = a ∧ (j = 1 ∨ j = 2)) ∨ ∃ i ∈ l, b = ad i ∧ j = 2) h h' :=
  FK.of hA.1 hA.2.1 (fun b j hn => hA.2.2.2.2.2 b j (fun z => hn (Or.inl z)) (fun z => hn (Or.inr (Or.inl z))) (fun i hi z => hn (Or.inr (Or.inr ⟨i, hi, z⟩))))
theorem RL.fk {d y : Nat} {l l' : List Nat} (hA : RL ad h h' d y l l') : FK (fun b j => (b = d ∧ (j = 3 ∨ j = 4)) ∨ (b = ad y ∧ (j = 1 ∨ j = 2)) ∨ ∃ i ∈ l, b = ad i ∧ j = 2) h h' :=
  FK.of hA.1 hA.2.1 (fun b j hn => hA.2.2.2.2.2 b j (fun z => hn (Or.inl z)) (fun z => hn (Or.inr (Or.inl z))) (fun i hi z => hn (Or.inr (Or.inr ⟨i, hi, z⟩))))
theorem CT.add {d a n nl y w : Nat} {nf : Nat → Nat} {l1 l2 : List Nat} (hC : CT G h x T ad na ch) (hd : d < 300) (hd2 : T.1 d = 2) (hy : 1 ≤ y ∧ y < 300) (hy0 : T.1 y = 0) (hw : w = 1 ∨ w = 2) (hE : EN G h a n nl nf) (hka : (h.1 a).1 + w = 4) (hn : n ≠ x + 2) (ha : ∀ e, e < 300 → T.1 e ≠ 0 → ad e ≠ a)
    (hl : ch d = l1 ++ l2) (h1 : ∀ i ∈ l1, s_lt (T.2.2.2 i) (T.2.2.1 i) nf nl) (h2 : ∀ i, l2.head? = some i → ¬ s_lt (T.2.2.2 i) (T.2.2.1 i) nf nl) (hno : ∀ i ∈ ch d, ¬ (T.2.2.1 i = nl ∧ ∀ k, k < nl → T.2.2.2 i k = nf k)) (hA : AD ad h h' (ad d) a y (ch d) (l1 ++ y :: l2)) (hw2 : w = 2 → h.2.1 a 3 = .null ∧ h.2.1 a 4 = .int (nI 0)) :
    CT G h' x (fu T.1 y w, fu T.2.1 y d, fu T.2.2.1 y nl, fn T.2.2.2 y nf) (fu ad y a) (fu na y n) (fun e => if e = d then l1 ++ y :: l2 else if e = y then [] else ch e) := by
  obtain ⟨c0, c1, c2, c3, c4, c5⟩ := id hC
  have hdy : d ≠ y := fun z => by (rw [z] at hd2; omega)
  have hdd := hC.dir hd hd2
  have hda : ad d ≠ a := ha d hd (by omega)
  have hF := hA.fk
  have key : ∀ e, e < 300 → T.1 e ≠ 0 → ∀ j, j ≤ 1 → h'.2.1 (ad e) j = h.2.1 (ad e) j := fun e he hl2 j hj => hF.2.2 _ _ (c1 e he hl2).1.1.2 (fun z => by
    rcases z with z | z | ⟨i, -, z⟩
    · omega
    · exact ha e he hl2 z.1
    · omega)
  have key34 : ∀ e, e < 300 → T.1 e ≠ 0 → e ≠ d → ∀ j, 3 ≤ j → h'.2.1 (ad e) j = h.2.1 (ad e) j := fun e he hl2 hne j hj => hF.2.2 _ _ (c1 e he hl2).1.1.2 (fun z => by
    rcases z with z | z | ⟨i, -, z⟩
    · exact hne (c4 e d he hd hl2 (by omega) z.1)
    · exact ha e he hl2 z.1
    · omega)
  have keyn : ∀ m k, m < h.2.2 → (h.1 m).1 = 101 → h'.2.1 m k = h.2.1 m k := fun m k hm hk => hF.2.2 _ _ hm (fun z => by
    rcases z with z | z | ⟨i, hi, z⟩
    · rw [z.1] at hk; omega
    · rw [z.1] at hk; have := hE.2.1; omega
    · have := (hC.ens hd hd2 i hi).2.1
      rw [z.1] at hk
      omega)
  have keya : ∀ j, j = 0 ∨ 3 ≤ j → h'.2.1 a j = h.2.1 a j := fun j hj => hF.2.2 _ _ hE.1.2 (fun z => by
    rcases z with z | z | ⟨i, hi, z⟩
    · exact hda z.1.symm
    · omega
    · omega)
  have hE' : ∀ e m q g, EN G h e m q g → (h'.2.1 e 0 = h.2.1 e 0) → EN G h' e m q g := fun e m q g hq h0 => hq.fr hA.1 hA.2.1 h0 (fun k => keyn m k hq.2.2.2.1.2 (by rw [hq.2.2.2.2.1]))
  have hy3 : y ∉ ch d := fun z => ((hC.mem hd hd2).mp z).2.2.1 hy0
  have nmn : ∀ i, i ≠ y → fn T.2.2.2 y nf i = T.2.2.2 i := fun i hi => fn_n hi
  refine ⟨fun e he => ?_, fun e he hl9 => ?_, fun e he hl9 h0 => ?_, ⟨?_, ?_, ?_⟩, fun e f he hf hle hlf hef => ?_, fun D hD hD2 => ?_⟩
  · show fu T.1 y w e ≤ 2 ∧ fu T.2.1 y d e < 300
    by_cases z : e = y
    · subst z; rw [fu_s, fu_s]; omega
    · rw [fu_n z, fu_n z]; exact c0 e he
  · show EN G h' (fu ad y a e) (fu na y n e) (fu T.2.2.1 y nl e) (fn T.2.2.2 y nf e) ∧ (h'.1 (fu ad y a e)).1 + fu T.1 y w e = 4 ∧ fu na y n e ≠ x + 2
    have hl9 : fu T.1 y w e ≠ 0 := hl9
    by_cases z : e = y
    · subst z
      rw [fu_s, fu_s, fu_s, fu_s, fn_s, hA.1]
      exact ⟨hE' _ _ _ _ hE (keya 0 (Or.inl rfl)), hka, hn⟩
    · rw [fu_n z] at hl9
      rw [fu_n z, fu_n z, fu_n z, fu_n z, fn_n z, hA.1]
      have h3 := c1 e he hl9
      exact ⟨hE' _ _ _ _ h3.1 (key e he hl9 0 (by omega)), h3.2⟩
  · show h'.2.1 (fu ad y a e) 1 = .ref (fu ad y a (fu T.2.1 y d e)) ∧ fu T.1 y w (fu T.2.1 y d e) = 2
    have hl9 : fu T.1 y w e ≠ 0 := hl9
    by_cases z : e = y
    · subst z
      rw [fu_s, fu_s, fu_n hdy, fu_n hdy]
      exact ⟨hA.2.2.2.2.1, hd2⟩
    · rw [fu_n z] at hl9
      have h3 := c2 e he hl9 h0
      have hpy : T.2.1 e ≠ y := fun q => by (rw [q] at h3; omega)
      rw [fu_n z, fu_n z, fu_n hpy, fu_n hpy, key e he hl9 1 (by omega)]
      exact h3
  · show h'.2.1 (fu ad y a 0) 1 = .null
    rw [fu_n (by omega), key 0 (by omega) (by omega) 1 (by omega)]; exact c3.1
  · show fu T.1 y w 0 = 2
    rw [fu_n (by omega)]; exact c3.2.1
  · show fu T.2.1 y d 0 = 0
    rw [fu_n (by omega)]; exact c3.2.2
  · have hle : fu T.1 y w e ≠ 0 := hle
    have hlf : fu T.1 y w f ≠ 0 := hlf
    by_cases z : e = y
    · by_cases q : f = y
      · rw [z, q]
      · rw [z, fu_s, fu_n q] at hef
        rw [fu_n q] at hlf
        exact absurd hef.symm (ha f hf hlf)
    · rw [fu_n z] at hle hef
      by_cases q : f = y
      · rw [q, fu_s] at hef
        exact absurd hef (ha e he hle)
      · rw [fu_n q] at hlf hef
        exact c4 e f he hf hle hlf hef
  · have hD2 : fu T.1 y w D = 2 := hD2
    show lnk (fu ad y a) h' (h'.2.1 (fu ad y a D) 3) (if D = d then l1 ++ y :: l2 else if D = y then [] else ch D) ∧ h'.2.1 (fu ad y a D) 4 = .int (nI (if D = d then l1 ++ y :: l2 else if D = y then [] else ch D).length) ∧
      (if D = d then l1 ++ y :: l2 else if D = y then [] else ch D).Pairwise (fun a b => s_lt (fn T.2.2.2 y nf a) (fu T.2.2.1 y nl a) (fn T.2.2.2 y nf b) (fu T.2.2.1 y nl b)) ∧ ∀ i, i ∈ (if D = d then l1 ++ y :: l2 else if D = y then [] else ch D) ↔ (1 ≤ i ∧ i < 300 ∧ fu T.1 y w i ≠ 0 ∧ fu T.2.1 y d i = D)
    by_cases zd : D = d
    · subst zd
      rw [if_pos rfl, fu_n hdy]
      obtain ⟨-, -, d3, d4⟩ := c5 D hD hd2
      rw [hl] at d3 d4 hy3 hno
      have e1 : ∀ i ∈ l1, i ≠ y := fun i hi z => hy3 (List.mem_append_left _ (by rw [← z]; exact hi))
      have e2 : ∀ i ∈ l2, i ≠ y := fun i hi z => hy3 (List.mem_append_right _ (by rw [← z]; exact hi))
      refine ⟨hA.2.2.1, ?_, ?_, fun i => ?_⟩
      · rw [hA.2.2.2.1, hl]
        congr 2
        simp only [List.length_append, List.length_cons]
        omega
      · have p0 := List.pairwise_append.mp d3
        have cg : ∀ l : List Nat, (∀ i ∈ l, i ≠ y) → l.Pairwise (fun a b => s_lt (T.2.2.2 a) (T.2.2.1 a) (T.2.2.2 b) (T.2.2.1 b)) → l.Pairwise (fun a b => s_lt (fn T.2.2.2 y nf a) (fu T.2.2.1 y nl a) (fn T.2.2.2 y nf b) (fu T.2.2.1 y nl b)) := fun l hq hp => by
          refine List.Pairwise.imp_of_mem ?_ hp
          intro a b ha hb hr
          rw [fn_n (hq a ha), fn_n (hq b hb), fu_n (hq a ha), fu_n (hq b hb)]
          exact hr
        rw [List.pairwise_append, List.pairwise_cons]
        refine ⟨cg l1 e1 p0.1, ⟨fun b hb => ?_, cg l2 e2 p0.2.1⟩, fun i hi b hb => ?_⟩
        · rw [fn_s, fu_s, fn_n (e2 b hb), fu_n (e2 b hb)]
          cases l2 with
          | nil => cases hb
          | cons c l2 =>
            have hc : s_lt nf nl (T.2.2.2 c) (T.2.2.1 c) := by
              rcases s_lt_tri (T.2.2.2 c) (T.2.2.1 c) nf nl with q | q | q
              · exact absurd q (h2 c rfl)
              · exact q
              · exact absurd ⟨q.1, fun k hk => q.2 k (by omega)⟩ (hno c (List.mem_append_right _ List.mem_cons_self))
            rcases List.mem_cons.mp hb with q | q
            · rw [q]; exact hc
            · exact s_lt_tr hc ((List.pairwise_cons.mp p0.2.1).1 b q)
        · rw [fn_n (e1 i hi), fu_n (e1 i hi)]
          rcases List.mem_cons.mp hb with q | q
          · rw [q, fn_s, fu_s]; exact h1 i hi
          · rw [fn_n (e2 b q), fu_n (e2 b q)]; exact p0.2.2 i hi b q
      · by_cases z : i = y
        · subst z
          rw [fu_s, fu_s]
          exact ⟨fun _ => ⟨hy.1, hy.2, by omega, rfl⟩, fun _ => List.mem_append_right _ List.mem_cons_self⟩
        · rw [fu_n z, fu_n z, ← d4 i, List.mem_append, List.mem_append, List.mem_cons]
          exact ⟨fun q => q.elim Or.inl (fun q => q.elim (fun w => absurd w z) Or.inr), fun q => q.elim Or.inl (fun q => Or.inr (Or.inr q))⟩
    · rw [if_neg zd]
      by_cases z : D = y
      · rw [if_pos z]
        subst z
        rw [fu_s] at hD2
        rw [fu_s, keya 3 (Or.inr (by omega)), keya 4 (Or.inr (by omega))]
        obtain ⟨w3, w4⟩ := hw2 hD2
        refine ⟨w3, w4, List.Pairwise.nil, fun i => ⟨fun q => absurd q List.not_mem_nil, fun q => ?_⟩⟩
        exfalso
        by_cases zi : i = D
        · rw [zi, fu_s, fu_s] at q; exact zd q.2.2.2.symm
        · rw [fu_n zi, fu_n zi] at q
          have := (c2 i q.2.1 q.2.2.1 (by omega)).2
          rw [q.2.2.2] at this
          omega
      · rw [if_neg z]
        rw [fu_n z] at hD2
        obtain ⟨d1, d2, d3, d4⟩ := c5 D hD hD2
        have ey : ∀ i ∈ ch D, i ≠ y := fun i hi q => ((d4 i).mp hi).2.2.1 (by rw [q]; exact hy0)
        rw [fu_n z, key34 D hD (by omega) zd 3 (by omega), key34 D hD (by omega) zd 4 (by omega)]
        refine ⟨?_, d2, ?_, fun i => ?_⟩
        · refine lnk_ad (ad := ad) (fun i hi => fu_n (ey i hi)) (lnk_congr (fun i hi => ?_) d1)
          have hi2 := (d4 i).mp hi
          refine hF.2.2 _ _ (c1 i hi2.2.1 hi2.2.2.1).1.1.2 (fun q => ?_)
          rcases q with q | q | ⟨i2, hi3, q⟩
          · omega
          · exact ha i hi2.2.1 hi2.2.2.1 q.1
          · have hi4 := (hC.mem hd hd2).mp hi3
            have := c4 i i2 hi2.2.1 hi4.2.1 hi2.2.2.1 hi4.2.2.1 q.1
            rw [this] at hi2
            exact zd (hi2.2.2.2.symm.trans hi4.2.2.2)
        · refine List.Pairwise.imp_of_mem ?_ d3
          intro a b ha hb hr
          rw [fn_n (ey a ha), fn_n (ey b hb), fu_n (ey a ha), fu_n (ey b hb)]
          exact hr
        · rw [d4 i]
          by_cases zi : i = y
          · subst zi
            rw [fu_s, fu_s]
            exact ⟨fun q => absurd hy0 q.2.2.1, fun q => absurd q.2.2.2.symm (fun w => zd w)⟩
          · rw [fu_n zi, fu_n zi]
theorem CT.rem {d y : Nat} {l1 l2 : List Nat} (hC : CT G h x T ad na ch) (hy : 1 ≤ y ∧ y < 300) (hy1 : T.1 y = 1) (hd : T.2.1 y = d) (hl : ch d = l1 ++ y :: l2) (hA : RL ad h h' (ad d) y (ch d) (l1 ++ l2)) :
    CT G h' x (fu T.1 y 0, T.2) ad na (fun e => if e = d then l1 ++ l2 else ch e) := by
  obtain ⟨c0, c1, c2, c3, c4, c5⟩ := id hC
  have hd2 : T.1 d = 2 := by (rw [← hd]; exact (c2 y hy.2 (by omega) (by omega)).2)
  have hd3 : d < 300 := by (rw [← hd]; exact (c0 y hy.2).2)
  have hdd := hC.dir hd3 hd2
  have hF := hA.fk
  have nl : ∀ e, fu T.1 y 0 e ≠ 0 → e ≠ y ∧ T.1 e ≠ 0 := fun e he => by
    by_cases z : e = y
    · rw [z, fu_s] at he; exact absurd rfl he
    · rw [fu_n z] at he; exact ⟨z, he⟩
  have key : ∀ e, e < 300 → T.1 e ≠ 0 → e ≠ y → ∀ j, j ≤ 1 → h'.2.1 (ad e) j = h.2.1 (ad e) j := fun e he hl2 hne j hj => hF.2.2 _ _ (c1 e he hl2).1.1.2 (fun z => by
    rcases z with z | z | ⟨i, -, z⟩
    · omega
    · exact hne (c4 e y he hy.2 hl2 (by omega) z.1)
    · omega)
  have key34 : ∀ e, e < 300 → T.1 e ≠ 0 → e ≠ d → ∀ j, 3 ≤ j → h'.2.1 (ad e) j = h.2.1 (ad e) j := fun e he hl2 hne j hj => hF.2.2 _ _ (c1 e he hl2).1.1.2 (fun z => by
    rcases z with z | z | ⟨i, -, z⟩
    · exact hne (c4 e d he hd3 hl2 (by omega) z.1)
    · omega
    · omega)
  have keyn : ∀ m k, m < h.2.2 → (h.1 m).1 = 101 → h'.2.1 m k = h.2.1 m k := fun m k hm hk => hF.2.2 _ _ hm (fun z => by
    rcases z with z | z | ⟨i, hi, z⟩
    · rw [z.1] at hk; omega
    · rw [z.1] at hk; have := (c1 y hy.2 (by omega)).1.2.1; omega
    · have := (hC.ens hd3 hd2 i hi).2.1
      rw [z.1] at hk
      omega)
  refine ⟨fun e he => ?_, fun e he hl9 => ?_, fun e he hl9 h0 => ?_, ⟨?_, ?_, c3.2.2⟩, fun e f he hf hle hlf hef => c4 e f he hf (nl e hle).2 (nl f hlf).2 hef, fun D hD hD2 => ?_⟩
  · show fu T.1 y 0 e ≤ 2 ∧ T.2.1 e < 300
    by_cases z : e = y
    · rw [z, fu_s]; exact ⟨by omega, (c0 y hy.2).2⟩
    · rw [fu_n z]; exact c0 e he
  · obtain ⟨z, hl9⟩ := nl e hl9
    show EN G h' (ad e) (na e) (T.2.2.1 e) (T.2.2.2 e) ∧ (h'.1 (ad e)).1 + fu T.1 y 0 e = 4 ∧ na e ≠ x + 2
    have h3 := c1 e he hl9
    rw [fu_n z, hA.1]
    exact ⟨h3.1.fr hA.1 hA.2.1 (key e he hl9 z 0 (by omega)) (fun k => keyn _ k h3.1.2.2.2.1.2 (by rw [h3.1.2.2.2.2.1])), h3.2⟩
  · obtain ⟨z, hl9⟩ := nl e hl9
    show h'.2.1 (ad e) 1 = .ref (ad (T.2.1 e)) ∧ fu T.1 y 0 (T.2.1 e) = 2
    have h3 := c2 e he hl9 h0
    rw [key e he hl9 z 1 (by omega), fu_n (fun q => by (rw [q] at h3; omega))]
    exact h3
  · rw [key 0 (by omega) (by omega) (by omega) 1 (by omega)]; exact c3.1
  · show fu T.1 y 0 0 = 2
    rw [fu_n (by omega)]; exact c3.2.1
  · have hD2 : fu T.1 y 0 D = 2 := hD2
    have hDy : D ≠ y := fun q => by (rw [q, fu_s] at hD2; omega)
    rw [fu_n hDy] at hD2
    show lnk ad h' (h'.2.1 (ad D) 3) (if D = d then l1 ++ l2 else ch D) ∧ h'.2.1 (ad D) 4 = .int (nI (if D = d then l1 ++ l2 else ch D).length) ∧
      (if D = d then l1 ++ l2 else ch D).Pairwise (fun a b => s_lt (T.2.2.2 a) (T.2.2.1 a) (T.2.2.2 b) (T.2.2.1 b)) ∧ ∀ i, i ∈ (if D = d then l1 ++ l2 else ch D) ↔ (1 ≤ i ∧ i < 300 ∧ fu T.1 y 0 i ≠ 0 ∧ T.2.1 i = D)
    obtain ⟨d1, d2, d3, d4⟩ := c5 D hD hD2
    by_cases zd : D = d
    · subst zd
      rw [if_pos rfl]
      have hnd := hC.nodup hD hD2
      rw [hl] at d3 d4 hnd
      have hnd2 := List.nodup_append.mp hnd
      refine ⟨hA.2.2.1, ?_, ?_, fun i => ?_⟩
      · rw [hA.2.2.2.1, hl]
        congr 2
        simp only [List.length_append, List.length_cons]
        omega
      · have p0 := List.pairwise_append.mp d3
        rw [List.pairwise_append]
        exact ⟨p0.1, (List.pairwise_cons.mp p0.2.1).2, fun a ha b hb => p0.2.2 a ha b (List.mem_cons_of_mem _ hb)⟩
      · by_cases z : i = y
        · subst z
          rw [fu_s]
          refine ⟨fun q => ?_, fun q => absurd rfl q.2.2.1⟩
          exfalso
          rcases List.mem_append.mp q with q | q
          · exact hnd2.2.2 i q i List.mem_cons_self rfl
          · exact (List.nodup_cons.mp hnd2.2.1).1 q
        · rw [fu_n z, ← d4 i, List.mem_append, List.mem_append, List.mem_cons]
          exact ⟨fun q => q.elim Or.inl (fun q => Or.inr (Or.inr q)), fun q => q.elim Or.inl (fun q => q.elim (fun w => absurd w z) Or.inr)⟩
    · rw [if_neg zd, key34 D hD (by omega) zd 3 (by omega), key34 D hD (by omega) zd 4 (by omega)]
      have ey : ∀ i ∈ ch D, i ≠ y := fun i hi q => zd (((d4 i).mp hi).2.2.2.symm.trans (by rw [q]; exact hd))
      refine ⟨?_, d2, d3, fun i => ?_⟩
      · refine lnk_congr (fun i hi => ?_) d1
        have hi2 := (d4 i).mp hi
        refine hF.2.2 _ _ (c1 i hi2.2.1 hi2.2.2.1).1.1.2 (fun q => ?_)
        rcases q with q | q | ⟨i2, hi3, q⟩
        · omega
        · exact ey i hi (c4 i y hi2.2.1 hy.2 hi2.2.2.1 (by omega) q.1)
        · have hi4 := (hC.mem hd3 hd2).mp hi3
          have := c4 i i2 hi2.2.1 hi4.2.1 hi2.2.2.1 hi4.2.2.1 q.1
          rw [this] at hi2
          exact zd (hi2.2.2.2.symm.trans hi4.2.2.2)
      · rw [d4 i]
        by_cases zi : i = y
        · subst zi
          rw [fu_s]
          exact ⟨fun q => absurd (q.2.2.2.symm.trans hd) zd, fun q => absurd rfl q.2.2.1⟩
        · rw [fu_n zi]
end ADDREM
