section CIU
variable {G : GG} {h : HH} {x o : Nat} {T : TT} {p : Nat → Nat} {len hand : Nat} {op : Option Nat} {gone : Bool} {bl : List (Nat × Nat)} {ad na : Nat → Nat} {ch : Nat → List Nat} {ba cp : Nat → Nat} {ga gb gc : Nat} 
/-- a field of the object itself is set: all else stands -/
theorem CI.px {k : Nat} {v : Value} (hI : CI G h x o T p len hand op gone bl ad na ch ba cp ga gb gc) : NK o (h_put h x k v) ∧ TX G (h_put h x k v) (x + 1) p len ∧ CT G (h_put h x k v) x T ad na ch ∧ CF G (h_put h x k v) o T bl ad ba cp ∧ CFr o h (h_put h x k v) := by
  obtain ⟨hNK, hP, hO, hX, hC, hB⟩ := id hI
  obtain ⟨ht, htk, hca, hln, hcs, hck, hch, hl2, hp⟩ := id hX
  obtain ⟨a1, a2, a3, a4, a5, a6, a7, a8, a9⟩ := id hP
  have hF : FK (fun b j => b = x ∧ j = k) h (h_put h x k v) := FK.put
  refine ⟨hNK.fr hF, hX.fk hF (fun j => ⟨fun z => by omega, fun z => by omega⟩), hC.fk hF (fun b j hb z => ?_), hB.fk hF (fun b j hb z => ?_), hF.cfr hNK (fun b j hb z => ?_)⟩
  · rw [z.1, a2]; omega
  · rw [z.1, a2]; omega
  · rw [z.1, a2]; omega
theorem CI.gaf {S : Nat → Nat → Prop} (hI : CI G h x o T p len hand op gone bl ad na ch ba cp ga gb gc) (h1 : ∀ b j, S b j → (h.1 b).1 ≠ 3) : ∀ e, op = some e → gone = true → ¬ S ga 1 ∧ ¬ S ga 3 ∧ ¬ S ga 4 := fun e he hg => by
  obtain ⟨hNK, hP, hO, hX, hC, hB⟩ := hI
  have h3 := (hO.2.2 e he hg).1.2.1
  exact ⟨fun z => h1 _ _ z h3, fun z => h1 _ _ z h3, fun z => h1 _ _ z h3⟩
/-- another directory at hand -/
theorem CI.hand_ {e : Nat} (hI : CI G h x o T p len hand op gone bl ad na ch ba cp ga gb gc) (he : e < 300) (h2 : T.1 e = 2) : CI G (h_put h x 2 (.ref (ad e))) x o T p len e op gone bl ad na ch ba cp ga gb gc ∧ CFr o h (h_put h x 2 (.ref (ad e))) := by
  obtain ⟨hNK, hP, hO, hX, hC, hB⟩ := id hI
  obtain ⟨ht, htk, hca, hln, hcs, hck, hch, hl2, hp⟩ := id hX
  obtain ⟨a1, a2, a3, a4, a5, a6, a7, a8, a9⟩ := id hP
  obtain ⟨n1, n2, n3, n4, n5⟩ := hI.px (k := 2) (v := .ref (ad e))
  exact ⟨⟨n1, ⟨a1, a2, (hp_j (by omega)).trans a3, (hp_j (by omega)).trans a4, hp_eq, ⟨he, h2⟩, (hp_j (by omega)).trans a7, (hp_j (by omega)).trans a8, (hp_j (by omega)).trans a9⟩, hO.fk a1.2 FK.put (fun z => by omega) (hI.gaf (S := fun b j => b = x ∧ j = 2) (fun b j z => by rw [z.1, a2]; omega)), n2, n3, n4⟩, n5⟩
/-- another file is open, or none -/
theorem CI.op_ {r : Option Nat} (hI : CI G h x o T p len hand op gone bl ad na ch ba cp ga gb gc) (hr : ∀ e, r = some e → e < 300 ∧ T.1 e = 1) {v : Value} (hv : v = va_rf (oA r false ad ga)) : CI G (h_put h x 3 v) x o T p len hand r false bl ad na ch ba cp ga gb gc ∧ CFr o h (h_put h x 3 v) := by
  obtain ⟨hNK, hP, hO, hX, hC, hB⟩ := id hI
  obtain ⟨ht, htk, hca, hln, hcs, hck, hch, hl2, hp⟩ := id hX
  obtain ⟨a1, a2, a3, a4, a5, a6, a7, a8, a9⟩ := id hP
  obtain ⟨n1, n2, n3, n4, n5⟩ := hI.px (k := 3) (v := v)
  exact ⟨⟨n1, ⟨a1, a2, (hp_j (by omega)).trans a3, (hp_j (by omega)).trans a4, (hp_j (by omega)).trans a5, a6, (hp_j (by omega)).trans a7, (hp_j (by omega)).trans a8, (hp_j (by omega)).trans a9⟩, ⟨hp_eq.trans hv, fun e h1 _ => hr e h1, fun e _ h2 => by cases h2⟩, n2, n3, n4⟩, n5⟩
/-- another text -/
theorem CI.tx {h' : HH} {p' : Nat → Nat} {len' : Nat} (hI : CI G h x o T p len hand op gone bl ad na ch ba cp ga gb gc) (hF : TF (x + 1) h h') (hT : TX G h' (x + 1) p' len') : CI G h' x o T p' len' hand op gone bl ad na ch ba cp ga gb gc ∧ CFr o h h' := by
  obtain ⟨hNK, hP, hO, hX, hC, hB⟩ := id hI
  obtain ⟨ht, htk, hca, hln, hcs, hck, hch, hl2, hp⟩ := id hX
  obtain ⟨a1, a2, a3, a4, a5, a6, a7, a8, a9⟩ := id hP
  have hF : FK (fun b j => b = x + 1 ∨ b = x + 1 + 1) h h' := FK.of hF.1 hF.2.1 (fun b j hn => hF.2.2 b j (fun z => hn (Or.inl z)) (fun z => hn (Or.inr z)))
  have hk2 : (h.1 (x + 1 + 1)).1 = 101 := by (rw [hck])
  refine ⟨⟨hNK.fr hF, hP.fk hF (fun j z => by omega), hO.fk a1.2 hF (fun z => by omega) (hI.gaf (S := fun b _ => b = x + 1 ∨ b = x + 1 + 1) (fun b j z => ?_)), hT, hC.fk hF (fun b j hb z => ?_), hB.fk hF (fun b j hb z => ?_)⟩, hF.cfr hNK (fun b j hb z => ?_)⟩
  · rcases z with z | z <;> rw [z] <;> omega
  · rcases z with z | z <;> subst z <;> omega
  · rcases z with z | z <;> subst z <;> omega
  · rcases z with z | z <;> subst z <;> omega
theorem CI.clr {h' : HH} (hI : CI G h x o T p len hand op gone bl ad na ch ba cp ga gb gc) (e : h' = h_put h (x + 1) 1 (.int (nI 0))) : CI G h' x o T p 0 hand op gone bl ad na ch ba cp ga gb gc ∧ CFr o h h' := by
  subst e
  exact hI.tx ⟨rfl, rfl, fun b j h1 h2 => hp_a h1⟩ (hI.2.2.2.1.clr)
end CIU
set_option maxHeartbeats 4000000 in
set_option maxRecDepth 100000 in
/-- PathTree.find -/
theorem k_find {G : GG} {h : HH} {x o : Nat} {T : TT} {p : Nat → Nat} {len hand : Nat} {op : Option Nat} {gone : Bool} {bl : List (Nat × Nat)} {ad na : Nat → Nat} {ch : Nat → List Nat} {ba cp : Nat → Nat} {ga gb gc : Nat} {Q : Option Value → HH → Prop} (hI : CI G h x o T p len hand op gone bl ad na ch ba cp ga gb gc) (hQ : ∀ h', CI G h' x o T p 0 hand op gone bl ad na ch ba cp ga gb gc → CFr o h h' → Q (some (.int (nI (s_found T (s_lead T p hand len))))) h') : V G mP_find 0 (lv_args 0 [.ref x]) [] h 0 0 Q := by
  obtain ⟨hNK, hP, hO, hX, hC, hB⟩ := id hI
  obtain ⟨ht, htk, hca, hln, hcs, hck, hch, hl2, hp⟩ := id hX
  obtain ⟨a1, a2, a3, a4, a5, a6, a7, a8, a9⟩ := id hP
  first | refine V.aload_n dP_find_0 rfl ?_ | refine V.aload_nN dP_find_0 rfl ?_
  refine V.callVk (kd := 0) 0 _ 0 _ [] dP_find_1 okP_target n_P_57 a1 a2 rfl imP_target seP_target_P (by decide) (by decide) rfl rfl (Nat.le_of_ble_eq_true rfl) (Nat.le_of_ble_eq_true rfl) (Nat.le_of_eq (Nat.zero_add _)) (Nat.le_of_eq (Nat.zero_add _)) (k_target hP hX hC (fun hr => ?_) (fun e hr he hl => ?_))
  · first | refine V.astore_n dP_find_4 (by decide) ?_ | refine V.astore_nN dP_find_4 (by decide) ?_
    first | refine V.aload_n dP_find_5 rfl ?_ | refine V.aload_nN dP_find_5 rfl ?_
    refine V.getk dP_find_6 a1 a2 f_P_10_0 a3 ?_
    refine V.callVk (kd := 1) 0 _ 0 _ [] dP_find_9 okT_clear n_P_61 ht htk rfl imT_clear seT_clear_T (by decide) (by decide) rfl rfl (Nat.le_of_ble_eq_true rfl) (Nat.le_of_ble_eq_true rfl) (Nat.le_of_eq (Nat.zero_add _)) (Nat.le_of_eq (Nat.zero_add _)) (k_clear hX (fun h9 e9 => ?_))
    obtain ⟨hI9, hF9⟩ := hI.clr e9
    obtain ⟨hNK9, hP9, hO9, hX9, hC9, hB9⟩ := id hI9
    first | refine V.aload_n dP_find_12 rfl ?_ | refine V.aload_nN dP_find_12 rfl ?_
    refine V.ifnonnullN dP_find_13 ?_
    refine V.iconst (v := (nI 0)) dP_find_16 (by decide) ?_
    refine V.ireturn dP_find_17 rfl rfl ?_
    have h1 := hQ h9 hI9 hF9
    rw [hr] at h1
    exact h1
  · have hk2 := (hC.1 e he).1
    by_cases h2 : T.1 e = 2
    · first | refine V.astore_n dP_find_4 (by decide) ?_ | refine V.astore_nN dP_find_4 (by decide) ?_
      first | refine V.aload_n dP_find_5 rfl ?_ | refine V.aload_nN dP_find_5 rfl ?_
      refine V.getk dP_find_6 a1 a2 f_P_10_0 a3 ?_
      refine V.callVk (kd := 1) 0 _ 0 _ [] dP_find_9 okT_clear n_P_61 ht htk rfl imT_clear seT_clear_T (by decide) (by decide) rfl rfl (Nat.le_of_ble_eq_true rfl) (Nat.le_of_ble_eq_true rfl) (Nat.le_of_eq (Nat.zero_add _)) (Nat.le_of_eq (Nat.zero_add _)) (k_clear hX (fun h9 e9 => ?_))
      obtain ⟨hI9, hF9⟩ := hI.clr e9
      obtain ⟨hNK9, hP9, hO9, hX9, hC9, hB9⟩ := id hI9
      have hd := hC9.dir he h2
      first | refine V.aload_n dP_find_12 rfl ?_ | refine V.aload_nN dP_find_12 rfl ?_
      refine V.ifnonnull (tgt := 18) dP_find_13 (by decide) ?_
      first | refine V.aload_n dP_find_18 rfl ?_ | refine V.aload_nN dP_find_18 rfl ?_
      refine V.instk dP_find_19 hd.1 hd.2 rfl cl_P_16 ?_
      refine V.if_eq (tgt := 29) dP_find_22 (by decide) (fun c_22 => ?_) (fun c_22 => ?_)
      · skip
        exact absurd c_22 (by decide)
      · skip
        refine V.iconst (v := (nI 2)) dP_find_25 (by decide) ?_
        refine V.goto (tgt := 30) dP_find_26 (by decide) ?_
        refine V.ireturn dP_find_30 rfl rfl ?_
        have h1 := hQ h9 hI9 hF9
        rw [hr] at h1
        rw [show s_found T (some e) = 2 from h2] at h1
        exact h1
    · have h1 : T.1 e = 1 := by omega
      first | refine V.astore_n dP_find_4 (by decide) ?_ | refine V.astore_nN dP_find_4 (by decide) ?_
      first | refine V.aload_n dP_find_5 rfl ?_ | refine V.aload_nN dP_find_5 rfl ?_
      refine V.getk dP_find_6 a1 a2 f_P_10_0 a3 ?_
      refine V.callVk (kd := 1) 0 _ 0 _ [] dP_find_9 okT_clear n_P_61 ht htk rfl imT_clear seT_clear_T (by decide) (by decide) rfl rfl (Nat.le_of_ble_eq_true rfl) (Nat.le_of_ble_eq_true rfl) (Nat.le_of_eq (Nat.zero_add _)) (Nat.le_of_eq (Nat.zero_add _)) (k_clear hX (fun h9 e9 => ?_))
      obtain ⟨hI9, hF9⟩ := hI.clr e9
      obtain ⟨hNK9, hP9, hO9, hX9, hC9, hB9⟩ := id hI9
      have hf := hC9.file he h1
      first | refine V.aload_n dP_find_12 rfl ?_ | refine V.aload_nN dP_find_12 rfl ?_
      refine V.ifnonnull (tgt := 18) dP_find_13 (by decide) ?_
      first | refine V.aload_n dP_find_18 rfl ?_ | refine V.aload_nN dP_find_18 rfl ?_
      refine V.instn dP_find_19 hf.1 hf.2 rfl cl_P_16 (by decide) ?_
      refine V.if_eq (tgt := 29) dP_find_22 (by decide) (fun c_22 => ?_) (fun c_22 => ?_)
      · skip
        refine V.iconst (v := (nI 1)) dP_find_29 (by decide) ?_
        refine V.ireturn dP_find_30 rfl rfl ?_
        have h1q := hQ h9 hI9 hF9
        rw [hr] at h1q
        rw [show s_found T (some e) = 1 from h1] at h1q
        exact h1q
      · skip
        exact absurd rfl c_22
  skip
set_option maxHeartbeats 4000000 in
set_option maxRecDepth 100000 in
/-- PathTree.go -/
theorem k_go {G : GG} {h : HH} {x o : Nat} {T : TT} {p : Nat → Nat} {len hand : Nat} {op : Option Nat} {gone : Bool} {bl : List (Nat × Nat)} {ad na : Nat → Nat} {ch : Nat → List Nat} {ba cp : Nat → Nat} {ga gb gc : Nat} {Q : Option Value → HH → Prop} (hI : CI G h x o T p len hand op gone bl ad na ch ba cp ga gb gc) (q0 : s_dir T (s_lead T p hand len) = none → ∀ h', CI G h' x o T p 0 hand op gone bl ad na ch ba cp ga gb gc → CFr o h h' → Q (some (.int (nI 0))) h') (q1 : ∀ e, s_dir T (s_lead T p hand len) = some e → ∀ h', CI G h' x o T p 0 e op gone bl ad na ch ba cp ga gb gc → CFr o h h' → Q (some (.int (nI 1))) h') : V G mP_go 0 (lv_args 0 [.ref x]) [] h 0 0 Q := by
  obtain ⟨hNK, hP, hO, hX, hC, hB⟩ := id hI
  obtain ⟨ht, htk, hca, hln, hcs, hck, hch, hl2, hp⟩ := id hX
  obtain ⟨a1, a2, a3, a4, a5, a6, a7, a8, a9⟩ := id hP
  first | refine V.aload_n dP_go_0 rfl ?_ | refine V.aload_nN dP_go_0 rfl ?_
  refine V.callVk (kd := 0) 0 _ 0 _ [] dP_go_1 okP_target n_P_57 a1 a2 rfl imP_target seP_target_P (by decide) (by decide) rfl rfl (Nat.le_of_ble_eq_true rfl) (Nat.le_of_ble_eq_true rfl) (Nat.le_of_eq (Nat.zero_add _)) (Nat.le_of_eq (Nat.zero_add _)) (k_target hP hX hC (fun hr => ?_) (fun e hr he hl => ?_))
  · first | refine V.astore_n dP_go_4 (by decide) ?_ | refine V.astore_nN dP_go_4 (by decide) ?_
    first | refine V.aload_n dP_go_5 rfl ?_ | refine V.aload_nN dP_go_5 rfl ?_
    refine V.getk dP_go_6 a1 a2 f_P_10_0 a3 ?_
    refine V.callVk (kd := 1) 0 _ 0 _ [] dP_go_9 okT_clear n_P_61 ht htk rfl imT_clear seT_clear_T (by decide) (by decide) rfl rfl (Nat.le_of_ble_eq_true rfl) (Nat.le_of_ble_eq_true rfl) (Nat.le_of_eq (Nat.zero_add _)) (Nat.le_of_eq (Nat.zero_add _)) (k_clear hX (fun h9 e9 => ?_))
    obtain ⟨hI9, hF9⟩ := hI.clr e9
    obtain ⟨hNK9, hP9, hO9, hX9, hC9, hB9⟩ := id hI9
    first | refine V.aload_n dP_go_12 rfl ?_ | refine V.aload_nN dP_go_12 rfl ?_
    refine V.instN dP_go_13 ?_
    refine V.if_eq (tgt := 31) dP_go_16 (by decide) (fun c_16 => ?_) (fun c_16 => ?_)
    · skip
      refine V.iconst (v := (nI 0)) dP_go_31 (by decide) ?_
      refine V.ireturn dP_go_32 rfl rfl ?_
      exact q0 (by rw [hr]; rfl) h9 hI9 hF9
    · skip
      exact absurd rfl c_16
  · have hk2 := (hC.1 e he).1
    by_cases h2 : T.1 e = 2
    · first | refine V.astore_n dP_go_4 (by decide) ?_ | refine V.astore_nN dP_go_4 (by decide) ?_
      first | refine V.aload_n dP_go_5 rfl ?_ | refine V.aload_nN dP_go_5 rfl ?_
      refine V.getk dP_go_6 a1 a2 f_P_10_0 a3 ?_
      refine V.callVk (kd := 1) 0 _ 0 _ [] dP_go_9 okT_clear n_P_61 ht htk rfl imT_clear seT_clear_T (by decide) (by decide) rfl rfl (Nat.le_of_ble_eq_true rfl) (Nat.le_of_ble_eq_true rfl) (Nat.le_of_eq (Nat.zero_add _)) (Nat.le_of_eq (Nat.zero_add _)) (k_clear hX (fun h9 e9 => ?_))
      obtain ⟨hI9, hF9⟩ := hI.clr e9
      obtain ⟨hNK9, hP9, hO9, hX9, hC9, hB9⟩ := id hI9
      have hd := hC9.dir he h2
      first | refine V.aload_n dP_go_12 rfl ?_ | refine V.aload_nN dP_go_12 rfl ?_
      refine V.instk dP_go_13 hd.1 hd.2 rfl cl_P_16 ?_
      refine V.if_eq (tgt := 31) dP_go_16 (by decide) (fun c_16 => ?_) (fun c_16 => ?_)
      · skip
        exact absurd c_16 (by decide)
      · skip
        first | refine V.aload_n dP_go_19 rfl ?_ | refine V.aload_nN dP_go_19 rfl ?_
        refine V.castk dP_go_20 hd.1 hd.2 rfl cl_P_16 ?_
        first | refine V.astore_n dP_go_23 (by decide) ?_ | refine V.astore_nN dP_go_23 (by decide) ?_
        first | refine V.aload_n dP_go_24 rfl ?_ | refine V.aload_nN dP_go_24 rfl ?_
        first | refine V.aload_n dP_go_25 rfl ?_ | refine V.aload_nN dP_go_25 rfl ?_
        refine V.putk dP_go_26 hP9.1 hP9.2.1 p_P_25_0 rfl rfl ?_
        intro h26 e26
        refine V.iconst (v := (nI 1)) dP_go_29 (by decide) ?_
        refine V.ireturn dP_go_30 rfl rfl ?_
        obtain ⟨hI26, hF26⟩ := hI9.hand_ he h2
        rw [← e26] at hI26 hF26
        exact q1 e (by rw [hr]; exact if_pos h2) h26 hI26 (hF9.tr hF26)
    · have h1 : T.1 e = 1 := by omega
      first | refine V.astore_n dP_go_4 (by decide) ?_ | refine V.astore_nN dP_go_4 (by decide) ?_
      first | refine V.aload_n dP_go_5 rfl ?_ | refine V.aload_nN dP_go_5 rfl ?_
      refine V.getk dP_go_6 a1 a2 f_P_10_0 a3 ?_
      refine V.callVk (kd := 1) 0 _ 0 _ [] dP_go_9 okT_clear n_P_61 ht htk rfl imT_clear seT_clear_T (by decide) (by decide) rfl rfl (Nat.le_of_ble_eq_true rfl) (Nat.le_of_ble_eq_true rfl) (Nat.le_of_eq (Nat.zero_add _)) (Nat.le_of_eq (Nat.zero_add _)) (k_clear hX (fun h9 e9 => ?_))
      obtain ⟨hI9, hF9⟩ := hI.clr e9
      obtain ⟨hNK9, hP9, hO9, hX9, hC9, hB9⟩ := id hI9
      have hf := hC9.file he h1
      first | refine V.aload_n dP_go_12 rfl ?_ | refine V.aload_nN dP_go_12 rfl ?_
      refine V.instn dP_go_13 hf.1 hf.2 rfl cl_P_16 (by decide) ?_
      refine V.if_eq (tgt := 31) dP_go_16 (by decide) (fun c_16 => ?_) (fun c_16 => ?_)
      · skip
        refine V.iconst (v := (nI 0)) dP_go_31 (by decide) ?_
        refine V.ireturn dP_go_32 rfl rfl ?_
        exact q0 (by rw [hr]; exact if_neg h2) h9 hI9 hF9
      · skip
        exact absurd rfl c_16
  skip
set_option maxHeartbeats 4000000 in
set_option maxRecDepth 100000 in
/-- PathTree.path -/
theorem k_path {G : GG} {h : HH} {x o : Nat} {T : TT} {p : Nat → Nat} {len hand : Nat} {op : Option Nat} {gone : Bool} {bl : List (Nat × Nat)} {ad na : Nat → Nat} {ch : Nat → List Nat} {ba cp : Nat → Nat} {ga gb gc : Nat} {Q : Option Value → HH → Prop} {c : Int64} {n : Int32} (hI : CI G h x o T p len hand op gone bl ad na ch ba cp ga gb gc) (q0 : ¬ s_pok len c n → Q (some (.int (-1))) h) (q1 : ∀ m, n = nI m → m ≤ 8 → s_pok len c n → ∀ h', CI G h' x o T (s_app p len c m) (len + m) hand op gone bl ad na ch ba cp ga gb gc → CFr o h h' → Q (some (.int (nI (len + m)))) h') : V G mP_path 0 (lv_args 0 [.ref x, .long c, .int n]) [] h 0 0 Q := by
  obtain ⟨hNK, hP, hO, hX, hC, hB⟩ := id hI
  obtain ⟨ht, htk, hca, hln, hcs, hck, hch, hl2, hp⟩ := id hX
  obtain ⟨a1, a2, a3, a4, a5, a6, a7, a8, a9⟩ := id hP
  refine V.iload_n dP_path_0 rfl ?_
  refine V.callS 0 _ 0 _ [_] dP_path_1 okP_isByteCount n_P_42 stP_isByteCount (by decide) (by decide) rfl rfl (Nat.le_of_ble_eq_true rfl) (Nat.le_of_ble_eq_true rfl) (Nat.le_of_eq (Nat.zero_add _)) (Nat.le_of_eq (Nat.zero_add _)) (k_isByteCount (fun b hb => ?_))
  cases b with
  | false =>
    refine V.if_eq (tgt := 19) dP_path_4 (by decide) (fun c_4 => ?_) (fun c_4 => ?_)
    · skip
      refine V.iconst (v := (-1)) dP_path_19 (by decide) ?_
      refine V.ireturn dP_path_20 rfl rfl ?_
      exact q0 (fun ⟨m, e, hm, _⟩ => by (have h9 := hb.mpr ⟨m, e, hm⟩; cases h9))
    · skip
      exact absurd (by decide) c_4
  | true =>
    obtain ⟨m, rfl, hm⟩ := hb.mp rfl
    refine V.if_eq (tgt := 19) dP_path_4 (by decide) (fun c_4 => ?_) (fun c_4 => ?_)
    · skip
      exact absurd c_4 (by decide)
    · skip
      first | refine V.aload_n dP_path_7 rfl ?_ | refine V.aload_nN dP_path_7 rfl ?_
      refine V.getk dP_path_8 a1 a2 f_P_10_0 a3 ?_
      refine V.lload_n dP_path_11 rfl ?_
      refine V.iload_n dP_path_12 rfl ?_
      refine V.callVk (kd := 1) 0 _ 0 _ [_, _] dP_path_13 okT_takes n_P_46 ht htk rfl imT_takes seT_takes_T (by decide) (by decide) rfl rfl (Nat.le_of_ble_eq_true rfl) (Nat.le_of_ble_eq_true rfl) (Nat.le_of_eq (Nat.zero_add _)) (Nat.le_of_eq (Nat.zero_add _)) (k_takes hX hm (fun b2 hb2 => ?_))
      cases b2 with
      | false =>
        refine V.if_ne (tgt := 21) dP_path_16 (by decide) (fun c_16 => ?_) (fun c_16 => ?_)
        · skip
          exact absurd (by decide) c_16
        · skip
          refine V.iconst (v := (-1)) dP_path_19 (by decide) ?_
          refine V.ireturn dP_path_20 rfl rfl ?_
          refine q0 (fun ⟨m2, e, hm2, h3, h4⟩ => ?_)
          have e2 := nI_inj (by omega) (by omega) e
          subst e2
          have h9 := hb2.mpr ⟨h3, h4⟩
          cases h9
      | true =>
        obtain ⟨hm3, hm4⟩ := hb2.mp rfl
        refine V.if_ne (tgt := 21) dP_path_16 (by decide) (fun c_16 => ?_) (fun c_16 => ?_)
        · skip
          first | refine V.aload_n dP_path_21 rfl ?_ | refine V.aload_nN dP_path_21 rfl ?_
          refine V.getk dP_path_22 a1 a2 f_P_10_0 a3 ?_
          refine V.lload_n dP_path_25 rfl ?_
          refine V.iload_n dP_path_26 rfl ?_
          refine V.callVk (kd := 1) 0 _ 0 _ [_, _] dP_path_27 okT_append n_P_50 ht htk rfl imT_append seT_append_T (by decide) (by decide) rfl rfl (Nat.le_of_ble_eq_true rfl) (Nat.le_of_ble_eq_true rfl) (Nat.le_of_eq (Nat.zero_add _)) (Nat.le_of_eq (Nat.zero_add _)) (k_append hX hm hm3 (fun h27 hX27 hF27 => ?_))
          obtain ⟨hI27, hF9⟩ := hI.tx hF27 hX27
          obtain ⟨hNK9, hP9, hO9, hX9, hC9, hB9⟩ := id hI27
          first | refine V.aload_n dP_path_30 rfl ?_ | refine V.aload_nN dP_path_30 rfl ?_
          refine V.getk dP_path_31 hP9.1 hP9.2.1 f_P_10_0 hP9.2.2.1 ?_
          refine V.getk dP_path_34 hX9.1 hX9.2.1 f_P_54_1 hX9.2.2.2.1 ?_
          refine V.ireturn dP_path_37 rfl rfl ?_
          exact q1 m rfl hm ⟨m, rfl, hm, hm3, hm4⟩ h27 hI27 hF9
        · skip
          exact absurd c_16 (by decide)
      skip
  skip
set_option maxHeartbeats 4000000 in
set_option maxRecDepth 100000 in
/-- PathTree.byteAt -/
theorem k_byteAt {G : GG} {h : HH} {x o : Nat} {T : TT} {p : Nat → Nat} {len hand : Nat} {op : Option Nat} {gone : Bool} {bl : List (Nat × Nat)} {ad na : Nat → Nat} {ch : Nat → List Nat} {ba cp : Nat → Nat} {ga gb gc : Nat} {Q : Option Value → HH → Prop} {j : Int32} (hI : CI G h x o T p len hand op gone bl ad na ch ba cp ga gb gc) (hQ : Q (some (.int (s_byteAt op gone bl j))) h) : V G mP_byteAt 0 (lv_args 0 [.ref x, .int j]) [] h 0 0 Q := by
  obtain ⟨hNK, hP, hO, hX, hC, hB⟩ := id hI
  obtain ⟨ht, htk, hca, hln, hcs, hck, hch, hl2, hp⟩ := id hX
  obtain ⟨a1, a2, a3, a4, a5, a6, a7, a8, a9⟩ := id hP
  cases op with
  | none =>
    have h3 : h.2.1 x 3 = .null := hO.1
    first | refine V.aload_n dP_byteAt_0 rfl ?_ | refine V.aload_nN dP_byteAt_0 rfl ?_
    refine V.getk dP_byteAt_1 a1 a2 f_P_28_0 h3 ?_
    refine V.ifnonnullN dP_byteAt_4 ?_
    refine V.iconst (v := (-1)) dP_byteAt_7 (by decide) ?_
    refine V.goto (tgt := 19) dP_byteAt_8 (by decide) ?_
    refine V.ireturn dP_byteAt_19 rfl rfl ?_
    exact hQ
  | some e =>
    cases gone with
    | true =>
      have h3 : h.2.1 x 3 = .ref ga := hO.1
      have hg := (hO.2.2 e rfl rfl).1
      first | refine V.aload_n dP_byteAt_0 rfl ?_ | refine V.aload_nN dP_byteAt_0 rfl ?_
      refine V.getk dP_byteAt_1 a1 a2 f_P_28_0 h3 ?_
      refine V.ifnonnull (tgt := 11) dP_byteAt_4 (by decide) ?_
      first | refine V.aload_n dP_byteAt_11 rfl ?_ | refine V.aload_nN dP_byteAt_11 rfl ?_
      refine V.getk dP_byteAt_12 a1 a2 f_P_28_0 h3 ?_
      refine V.iload_n dP_byteAt_15 rfl ?_
      refine V.callVk (kd := 3) 0 _ 0 _ [_] dP_byteAt_16 okF_at n_P_108 hg.1 hg.2.1 rfl imF_at seF_at_F (by decide) (by decide) rfl rfl (Nat.le_of_ble_eq_true rfl) (Nat.le_of_ble_eq_true rfl) (Nat.le_of_eq (Nat.zero_add _)) (Nat.le_of_eq (Nat.zero_add _)) (k_at hg ?_)
      refine V.ireturn dP_byteAt_19 rfl rfl ?_
      refine Eq.mp ?_ hQ
      congr 3
      show (-1 : Int32) = if ¬ (j < 0 ∨ 0 ≤ j.toNatClampNeg) then _ else -1
      rw [if_neg (fun z => z (Or.inr (Nat.zero_le _)))]
    | false =>
      have h3 : h.2.1 x 3 = .ref (ad e) := hO.1
      obtain ⟨he, h1⟩ := hO.2.1 e rfl rfl
      have hf := (hB.1 e he h1).1
      first | refine V.aload_n dP_byteAt_0 rfl ?_ | refine V.aload_nN dP_byteAt_0 rfl ?_
      refine V.getk dP_byteAt_1 a1 a2 f_P_28_0 h3 ?_
      refine V.ifnonnull (tgt := 11) dP_byteAt_4 (by decide) ?_
      first | refine V.aload_n dP_byteAt_11 rfl ?_ | refine V.aload_nN dP_byteAt_11 rfl ?_
      refine V.getk dP_byteAt_12 a1 a2 f_P_28_0 h3 ?_
      refine V.iload_n dP_byteAt_15 rfl ?_
      refine V.callVk (kd := 3) 0 _ 0 _ [_] dP_byteAt_16 okF_at n_P_108 hf.1 hf.2.1 rfl imF_at seF_at_F (by decide) (by decide) rfl rfl (Nat.le_of_ble_eq_true rfl) (Nat.le_of_ble_eq_true rfl) (Nat.le_of_eq (Nat.zero_add _)) (Nat.le_of_eq (Nat.zero_add _)) (k_at hf ?_)
      refine V.ireturn dP_byteAt_19 rfl rfl ?_
      exact hQ
