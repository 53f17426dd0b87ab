set_option maxHeartbeats 4000000 in
set_option maxRecDepth 100000 in
/-- Entry() -/
theorem k_E_init {G : GG} {h : HH} {a n : Nat} {Q : Option Value → HH → Prop} (ha : g_0 G ≤ a ∧ a < h.2.2) (hk : (h.1 a).1 = 2 ∨ (h.1 a).1 = 3) (hQ : ∀ h', h' = h_put (h_put (h_put h a 1 .null) a 2 .null) a 0 (.ref n) → Q none h') : V G mE_init 0 (lv_args 0 [.ref a, .ref n]) [] h 0 0 Q := by
  first | refine V.aload_n dE_init_0 rfl ?_ | refine V.aload_nN dE_init_0 rfl ?_
  refine V.objInit dE_init_1 nl_E_1 oi_1 oi_2 (by decide) (by decide) (Nat.le_of_ble_eq_true rfl) ?_
  first | refine V.aload_n dE_init_4 rfl ?_ | refine V.aload_nN dE_init_4 rfl ?_
  refine V.null dE_init_5 ?_
  refine V.putk dE_init_6 ha rfl (pE p_E_7_2 p_E_7_3 hk) rfl rfl ?_
  intro h1 e1
  have ha1 : g_0 G ≤ a ∧ a < h1.2.2 := by (rw [e1]; exact ha)
  have hk1 : (h1.1 a).1 = 2 ∨ (h1.1 a).1 = 3 := by (rw [e1]; exact hk)
  first | refine V.aload_n dE_init_9 rfl ?_ | refine V.aload_nN dE_init_9 rfl ?_
  refine V.null dE_init_10 ?_
  refine V.putk dE_init_11 ha1 rfl (pE p_E_13_2 p_E_13_3 hk1) rfl rfl ?_
  intro h2 e2
  have ha2 : g_0 G ≤ a ∧ a < h2.2.2 := by (rw [e2]; exact ha1)
  have hk2 : (h2.1 a).1 = 2 ∨ (h2.1 a).1 = 3 := by (rw [e2]; exact hk1)
  first | refine V.aload_n dE_init_14 rfl ?_ | refine V.aload_nN dE_init_14 rfl ?_
  first | refine V.aload_n dE_init_15 rfl ?_ | refine V.aload_nN dE_init_15 rfl ?_
  refine V.putk dE_init_16 ha2 rfl (pE p_E_17_2 p_E_17_3 hk2) rfl rfl ?_
  intro h3 e3
  refine V.vreturn dE_init_19 rfl ?_
  exact hQ h3 (by rw [e3, e2, e1])
/-- a new directory at a, of the name n -/
def DN (h h' : HH) (a n : Nat) : Prop := h'.1 = h.1 ∧ h'.2.2 = h.2.2 ∧ h'.2.1 a 0 = .ref n ∧ h'.2.1 a 1 = .null ∧ h'.2.1 a 3 = .null ∧ h'.2.1 a 4 = .int (nI 0) ∧ ∀ b j, b ≠ a → h'.2.1 b j = h.2.1 b j
/-- a new file at a, of the name n; its bytes at q, which is the next free place -/
def FN (h h' : HH) (a n : Nat) : Prop := h'.2.2 = h.2.2 + 1 ∧ h'.1 h.2.2 = (102, 16) ∧ (∀ b, b < h.2.2 → h'.1 b = h.1 b) ∧ h'.2.1 a 0 = .ref n ∧ h'.2.1 a 1 = .null ∧ h'.2.1 a 3 = .ref h.2.2 ∧ h'.2.1 a 4 = .int (nI 0) ∧ ∀ b j, b < h.2.2 → b ≠ a → h'.2.1 b j = h.2.1 b j
set_option maxHeartbeats 4000000 in
set_option maxRecDepth 100000 in
/-- Directory() -/
theorem k_D_init {G : GG} {h : HH} {a n : Nat} {Q : Option Value → HH → Prop} (ha : g_0 G ≤ a ∧ a < h.2.2) (hk : (h.1 a).1 = 2) (hQ : ∀ h', DN h h' a n → Q none h') : V G mD_init 0 (lv_args 0 [.ref a, .ref n]) [] h 0 0 Q := by
  first | refine V.aload_n dD_init_0 rfl ?_ | refine V.aload_nN dD_init_0 rfl ?_
  first | refine V.aload_n dD_init_1 rfl ?_ | refine V.aload_nN dD_init_1 rfl ?_
  refine V.callI 0 _ 0 _ [_] dD_init_2 okE_init n_D_1 rfl rfl imE_init (by decide) (by decide) rfl rfl (Nat.le_of_ble_eq_true rfl) (Nat.le_of_ble_eq_true rfl) (Nat.le_of_eq (Nat.zero_add _)) (Nat.le_of_eq (Nat.zero_add _)) (k_E_init ha (Or.inl hk) (fun h1 e1 => ?_))
  have ha1 : g_0 G ≤ a ∧ a < h1.2.2 := by (rw [e1]; exact ha)
  have hk1 : (h1.1 a).1 = 2 := by (rw [e1]; exact hk)
  first | refine V.aload_n dD_init_5 rfl ?_ | refine V.aload_nN dD_init_5 rfl ?_
  refine V.null dD_init_6 ?_
  refine V.putk dD_init_7 ha1 hk1 p_D_7_2 rfl rfl ?_
  intro h2 e2
  have ha2 : g_0 G ≤ a ∧ a < h2.2.2 := by (rw [e2]; exact ha1)
  have hk2 : (h2.1 a).1 = 2 := by (rw [e2]; exact hk1)
  first | refine V.aload_n dD_init_10 rfl ?_ | refine V.aload_nN dD_init_10 rfl ?_
  refine V.iconst (v := (nI 0)) dD_init_11 (by decide) ?_
  refine V.putk dD_init_12 ha2 hk2 p_D_13_2 rfl rfl ?_
  intro h3 e3
  refine V.vreturn dD_init_15 rfl ?_
  subst e3 e2 e1
  refine hQ _ ⟨rfl, rfl, ?_, ?_, ?_, hp_eq, fun b j hb => ?_⟩
  · rw [hp_j (by omega), hp_j (by omega)]; exact hp_eq
  · rw [hp_j (by omega), hp_j (by omega), hp_j (by omega), hp_j (by omega)]; exact hp_eq
  · rw [hp_j (by omega)]; exact hp_eq
  · rw [hp_a hb, hp_a hb, hp_a hb, hp_a hb, hp_a hb]
set_option maxHeartbeats 4000000 in
set_option maxRecDepth 100000 in
/-- FileEntry() -/
theorem k_F_init {G : GG} {h : HH} {a n : Nat} {Q : Option Value → HH → Prop} (ha : g_0 G ≤ a ∧ a < h.2.2) (hk : (h.1 a).1 = 3) (hQ : ∀ h', FN h h' a n → Q none h') : V G mF_init 0 (lv_args 0 [.ref a, .ref n]) [] h 1 16 Q := by
  first | refine V.aload_n dF_init_0 rfl ?_ | refine V.aload_nN dF_init_0 rfl ?_
  first | refine V.aload_n dF_init_1 rfl ?_ | refine V.aload_nN dF_init_1 rfl ?_
  refine V.callI 0 1 0 16 [_] dF_init_2 okE_init n_F_3 rfl rfl imE_init (by decide) (by decide) rfl rfl (Nat.le_of_ble_eq_true rfl) (Nat.le_of_ble_eq_true rfl) (by omega) (by omega) (k_E_init ha (Or.inr hk) (fun h1 e1 => ?_))
  have z1 : h1.2.2 = h.2.2 := by (rw [e1]; rfl)
  first | refine V.aload_n dF_init_5 rfl ?_ | refine V.aload_nN dF_init_5 rfl ?_
  refine V.bipush (v := (nI 16)) dF_init_6 (by decide) ?_
  refine V.newaN (kd := 102) (c2 := 0) (s2 := 0) dF_init_8 rfl ar_byte rfl (by omega) (by omega) (by omega) z1 ?_
  intro h8 e8 z8
  have kk : ∀ b, b < h.2.2 → h8.1 b = h1.1 b ∧ ∀ j, h8.2.1 b j = h1.2.1 b j := fun b hb => ⟨by rw [e8]; exact hn_kn (by rw [z1]; omega), fun j => by rw [e8]; exact hn_fn (by rw [z1]; omega)⟩
  have hkn : h8.1 h.2.2 = (102, 16) := by (rw [e8]; exact hn_k z1)
  have ha8 : g_0 G ≤ a ∧ a < h8.2.2 := ⟨ha.1, by omega⟩
  have hk8 : (h8.1 a).1 = 3 := by (rw [(kk a ha.2).1, e1]; exact hk)
  refine V.putk dF_init_10 ha8 hk8 p_F_11_3 rfl rfl ?_
  intro h2 e2
  have ha2 : g_0 G ≤ a ∧ a < h2.2.2 := by (rw [e2]; exact ha8)
  have hk2 : (h2.1 a).1 = 3 := by (rw [e2]; exact hk8)
  first | refine V.aload_n dF_init_13 rfl ?_ | refine V.aload_nN dF_init_13 rfl ?_
  refine V.iconst (v := (nI 0)) dF_init_14 (by decide) ?_
  refine V.putk dF_init_15 ha2 hk2 p_F_15_3 rfl rfl ?_
  intro h3 e3
  refine V.vreturn dF_init_18 rfl ?_
  subst e3 e2
  refine hQ _ ⟨z8, hkn, fun b hb => ?_, ?_, ?_, ?_, hp_eq, fun b j hb hba => ?_⟩
  · rw [hp_k, hp_k, (kk b hb).1, e1]; rfl
  · rw [hp_j (by omega), hp_j (by omega), (kk a ha.2).2, e1]; exact hp_eq
  · rw [hp_j (by omega), hp_j (by omega), (kk a ha.2).2, e1, hp_j (by omega), hp_j (by omega)]; exact hp_eq
  · rw [hp_j (by omega)]; exact hp_eq
  · rw [hp_a hba, hp_a hba, (kk b hb).2, e1, hp_a hba, hp_a hba, hp_a hba]
set_option maxHeartbeats 4000000 in
set_option maxRecDepth 100000 in
/-- PathText() -/
theorem k_T_init {G : GG} {h : HH} {t : Nat} {p : Nat → Nat} {Q : Option Value → HH → Prop} (ht : g_0 G ≤ t) (hz : h.2.2 = t + 1) (hk : (h.1 t).1 = 1) (hQ : ∀ h', h'.2.2 = t + 2 → TX G h' t p 0 → (∀ b, b < t → h'.1 b = h.1 b ∧ ∀ j, h'.2.1 b j = h.2.1 b j) → Q none h') : V G mT_init 0 (lv_args 0 [.ref t]) [] h 1 250 Q := by
  first | refine V.aload_n dT_init_0 rfl ?_ | refine V.aload_nN dT_init_0 rfl ?_
  refine V.objInit dT_init_1 nl_T_1 oi_1 oi_2 (by decide) (by decide) (Nat.le_of_ble_eq_true rfl) ?_
  first | refine V.aload_n dT_init_4 rfl ?_ | refine V.aload_nN dT_init_4 rfl ?_
  refine V.sipush (v := (nI 250)) dT_init_5 (by decide) ?_
  refine V.newaN (kd := 101) (c2 := 0) (s2 := 0) dT_init_8 rfl ar_char rfl (by omega) (by omega) (by omega) hz ?_
  intro h8 e8 z8
  have kk : ∀ b, b < t + 1 → h8.1 b = h.1 b ∧ ∀ j, h8.2.1 b j = h.2.1 b j := fun b hb => ⟨by rw [e8]; exact hn_kn (by rw [hz]; omega), fun j => by rw [e8]; exact hn_fn (by rw [hz]; omega)⟩
  have hkn : h8.1 (t + 1) = (101, 250) := by (rw [e8]; exact hn_k hz)
  have hk8 : (h8.1 t).1 = 1 := by (rw [(kk t (by omega)).1]; exact hk)
  refine V.putk dT_init_10 (by omega) hk8 (p_T_9_1 rfl) rfl rfl ?_
  intro h2 e2
  have ha2 : g_0 G ≤ t ∧ t < h2.2.2 := by (rw [e2]; show _ ∧ t < h8.2.2; omega)
  have hk2 : (h2.1 t).1 = 1 := by (rw [e2]; exact hk8)
  first | refine V.aload_n dT_init_13 rfl ?_ | refine V.aload_nN dT_init_13 rfl ?_
  refine V.iconst (v := (nI 0)) dT_init_14 (by decide) ?_
  refine V.putk dT_init_15 ha2 hk2 p_T_13_1 rfl rfl ?_
  intro h3 e3
  refine V.vreturn dT_init_18 rfl ?_
  subst e3 e2
  refine hQ _ z8 ⟨⟨ht, by show t < h8.2.2; omega⟩, hk8, (hp_j (by omega)).trans hp_eq, hp_eq, ⟨by omega, by show t + 1 < h8.2.2; omega⟩, hkn, fun j hj => by omega, by omega, fun j hj => by omega⟩ (fun b hb => ⟨(kk b (by omega)).1, fun j => ?_⟩)
  rw [hp_a (by omega), hp_a (by omega)]
  exact (kk b (by omega)).2 j
/-- a file at a: its bytes bs, in an array b of C places -/
def FB (G : GG) (h : HH) (a b C : Nat) (bs : List Nat) : Prop := (g_0 G ≤ a ∧ a < h.2.2) ∧ (h.1 a).1 = 3 ∧ h.2.1 a 3 = .ref b ∧ h.2.1 a 4 = .int (nI bs.length) ∧ (g_0 G ≤ b ∧ b < h.2.2) ∧ h.1 b = (102, C) ∧ (16 ≤ C ∧ C < 2 ^ 19) ∧ bs.length ≤ C ∧ (∀ k, k < bs.length → h.2.1 b k = .int ((nI (bs.getD k 0)).toInt8.toInt32)) ∧ ∀ v ∈ bs, v < 256
theorem getD_m {bs : List Nat} {k : Nat} (h : k < bs.length) : bs.getD k 0 ∈ bs := by
  rw [List.getD_eq_getElem?_getD, List.getElem?_eq_getElem h]
  exact List.getElem_mem h
theorem getD_l {l : List Nat} {q d j : Nat} (h : j < l.length) : (l ++ [q]).getD j d = l.getD j d := by
  rw [List.getD_eq_getElem?_getD, List.getD_eq_getElem?_getD, List.getElem?_append_left h]
theorem getD_r {l : List Nat} {q d : Nat} : (l ++ [q]).getD l.length d = q := by
  rw [List.getD_eq_getElem?_getD]
  simp
theorem FB.fr {G : GG} {h h' : HH} {a b C : Nat} {bs : List Nat} (hB : FB G h a b C bs) (hz : h.2.2 ≤ h'.2.2) (hk : ∀ x, x < h.2.2 → h'.1 x = h.1 x) (h3 : h'.2.1 a 3 = h.2.1 a 3) (h4 : h'.2.1 a 4 = h.2.1 a 4) (hb : ∀ j, h'.2.1 b j = h.2.1 b j) : FB G h' a b C bs := by
  obtain ⟨b1, b2, b3, b4, b5, b6, b7, b8, b9, b10⟩ := hB
  exact ⟨⟨b1.1, by omega⟩, by rw [hk a b1.2]; exact b2, h3.trans b3, h4.trans b4, ⟨b5.1, by omega⟩, by rw [hk b b5.2]; exact b6, b7, b8, fun k hk2 => (hb k).trans (b9 k hk2), b10⟩
theorem FB.zero {G : GG} {h : HH} {a b C : Nat} {bs : List Nat} (hB : FB G h a b C bs) : FB G (h_put h a 4 (.int (nI 0))) a b C [] := by
  obtain ⟨b1, b2, b3, b4, b5, b6, b7, b8, b9, b10⟩ := hB
  exact ⟨b1, b2, (hp_j (by omega)).trans b3, hp_eq, b5, b6, b7, Nat.zero_le _, fun k hk => absurd hk (Nat.not_lt_zero k), fun v hv => absurd hv List.not_mem_nil⟩
theorem FB.push {G : GG} {h : HH} {a b C v : Nat} {bs : List Nat} (hB : FB G h a b C bs) (hl : bs.length < C) (hv : v < 256) : FB G (h_put (h_put h b bs.length (.int ((nI v).toInt8.toInt32))) a 4 (.int (nI (bs.length + 1)))) a b C (bs ++ [v]) := by
  obtain ⟨b1, b2, b3, b4, b5, b6, b7, b8, b9, b10⟩ := hB
  have hab : a ≠ b := fun z => by (rw [z, b6] at b2; cases b2)
  refine ⟨b1, b2, (hp_j (by omega)).trans ((hp_a hab).trans b3), by rw [List.length_append, List.length_singleton]; exact hp_eq, b5, b6, b7, by rw [List.length_append, List.length_singleton]; omega, fun k hk => ?_, fun w hw => ?_⟩
  · rw [List.length_append, List.length_singleton] at hk
    rw [hp_a (fun z => hab z.symm)]
    by_cases z : k < bs.length
    · rw [getD_l z, hp_j (by omega)]; exact b9 k z
    · rw [show k = bs.length by omega, getD_r]; exact hp_eq
  · rcases List.mem_append.mp hw with z | z
    · exact b10 w z
    · rw [List.mem_singleton.mp z]; exact hv
set_option maxHeartbeats 4000000 in
set_option maxRecDepth 100000 in
/-- FileEntry.room -/
theorem k_room {G : GG} {h : HH} {a b C : Nat} {bs : List Nat} {Q : Option Value → HH → Prop} (hB : FB G h a b C bs) (hl : bs.length ≤ 16384) (hQ : Q (some (.int (nI (16384 - bs.length)))) h) : V G mF_room 0 (lv_args 0 [.ref a]) [] h 0 0 Q := by
  obtain ⟨b1, b2, b3, b4, b5, b6, b7, b8, b9, b10⟩ := id hB
  refine V.sipush (v := (nI 16384)) dF_room_0 (by decide) ?_
  first | refine V.aload_n dF_room_3 rfl ?_ | refine V.aload_nN dF_room_3 rfl ?_
  refine V.getk dF_room_4 b1 b2 f_F_15_3 b4 ?_
  refine V.isubN dF_room_7 (by omega) ?_
  refine V.ireturn dF_room_8 rfl rfl ?_
  exact hQ
theorem zz_clamp {n : Nat} {j : Int32} (hn : n < 2 ^ 31) (h : nI n ≤ j) : n ≤ j.toNatClampNeg := by
  have h1 := Int32.le_iff_toInt_le.mp h
  rw [nI_toInt hn] at h1
  show n ≤ j.toInt.toNat
  omega
set_option maxHeartbeats 4000000 in
set_option maxRecDepth 100000 in
/-- FileEntry.at -/
theorem k_at {G : GG} {h : HH} {a b C : Nat} {bs : List Nat} {Q : Option Value → HH → Prop} {j : Int32} (hB : FB G h a b C bs) (hQ : Q (some (.int (if ¬ (j < 0 ∨ bs.length ≤ j.toNatClampNeg) then nI (bs.getD j.toNatClampNeg 0) else -1))) h) : V G mF_at 0 (lv_args 0 [.ref a, .int j]) [] h 0 0 Q := by
  obtain ⟨b1, b2, b3, b4, b5, b6, b7, b8, b9, b10⟩ := id hB
  rcases pk_ix j (n := bs.length) (by omega) with hj | hj | ⟨y, hy, rfl⟩
  · rw [if_neg (fun z => z (Or.inl hj))] at hQ
    refine V.iload_n dF_at_0 rfl ?_
    refine V.if_lt (tgt := 25) dF_at_1 (by decide) (fun c_1 => ?_) (fun c_1 => ?_)
    · skip
      refine V.iconst (v := (-1)) dF_at_25 (by decide) ?_
      refine V.ireturn dF_at_26 rfl rfl ?_
      exact hQ
    · skip
      exact absurd hj c_1
  · rw [if_neg (fun z => z (Or.inr (by first | exact (zz_clamp (by omega) hj) | omega)))] at hQ
    refine V.iload_n dF_at_0 rfl ?_
    refine V.if_lt (tgt := 25) dF_at_1 (by decide) (fun c_1 => ?_) (fun c_1 => ?_)
    · skip
      refine V.iconst (v := (-1)) dF_at_25 (by decide) ?_
      refine V.ireturn dF_at_26 rfl rfl ?_
      exact hQ
    · skip
      refine V.iload_n dF_at_4 rfl ?_
      first | refine V.aload_n dF_at_5 rfl ?_ | refine V.aload_nN dF_at_5 rfl ?_
      refine V.getk dF_at_6 b1 b2 f_F_15_3 b4 ?_
      refine V.icmp_ge (tgt := 25) dF_at_9 (by decide) (fun c_9 => ?_) (fun c_9 => ?_)
      · skip
        refine V.iconst (v := (-1)) dF_at_25 (by decide) ?_
        refine V.ireturn dF_at_26 rfl rfl ?_
        exact hQ
      · skip
        exact absurd hj c_9
  · rw [nI_clamp (by omega), if_pos (fun z => by (rcases z with z | z; exact nI_pos (by omega) z; omega))] at hQ
    refine V.iload_n dF_at_0 rfl ?_
    refine V.if_lt (tgt := 25) dF_at_1 (by decide) (fun c_1 => ?_) (fun c_1 => ?_)
    · try simp (disch := omega) only [nI_ltI, nI_leI, nI_eq, zz_lt0, zz_ge0, zz_gt0, zz_le0, zz_eq0, zz_m1lt, zz_m1ge, zz_m1eq, bI_eq0, decide_eq_false_iff_not, decide_eq_true_eq, Decidable.not_not, not_true_eq_false, not_false_eq_true, Nat.not_lt, Nat.not_le, Bool.not_eq_false, Bool.not_eq_true] at c_1
      all_goals omega
    · try simp (disch := omega) only [nI_ltI, nI_leI, nI_eq, zz_lt0, zz_ge0, zz_gt0, zz_le0, zz_eq0, zz_m1lt, zz_m1ge, zz_m1eq, bI_eq0, decide_eq_false_iff_not, decide_eq_true_eq, Decidable.not_not, not_true_eq_false, not_false_eq_true, Nat.not_lt, Nat.not_le, Bool.not_eq_false, Bool.not_eq_true] at c_1
      refine V.iload_n dF_at_4 rfl ?_
      first | refine V.aload_n dF_at_5 rfl ?_ | refine V.aload_nN dF_at_5 rfl ?_
      refine V.getk dF_at_6 b1 b2 f_F_15_3 b4 ?_
      refine V.icmp_ge (tgt := 25) dF_at_9 (by decide) (fun c_9 => ?_) (fun c_9 => ?_)
      · try simp (disch := omega) only [nI_ltI, nI_leI, nI_eq, zz_lt0, zz_ge0, zz_gt0, zz_le0, zz_eq0, zz_m1lt, zz_m1ge, zz_m1eq, bI_eq0, decide_eq_false_iff_not, decide_eq_true_eq, Decidable.not_not, not_true_eq_false, not_false_eq_true, Nat.not_lt, Nat.not_le, Bool.not_eq_false, Bool.not_eq_true] at c_9
        all_goals omega
      · try simp (disch := omega) only [nI_ltI, nI_leI, nI_eq, zz_lt0, zz_ge0, zz_gt0, zz_le0, zz_eq0, zz_m1lt, zz_m1ge, zz_m1eq, bI_eq0, decide_eq_false_iff_not, decide_eq_true_eq, Decidable.not_not, not_true_eq_false, not_false_eq_true, Nat.not_lt, Nat.not_le, Bool.not_eq_false, Bool.not_eq_true] at c_9
        first | refine V.aload_n dF_at_12 rfl ?_ | refine V.aload_nN dF_at_12 rfl ?_
        refine V.getk dF_at_13 b1 b2 f_F_11_3 b3 ?_
        refine V.iload_n dF_at_16 rfl ?_
        refine V.baloadN dF_at_17 b5 b6 (by omega) (b9 y hy) ?_
        refine V.sipush (v := (nI 255)) dF_at_18 (by decide) ?_
        refine V.iand dF_at_21 ?_
        rw [by_k8 (b10 _ (getD_m hy))]
        refine V.goto (tgt := 26) dF_at_22 (by decide) ?_
        refine V.ireturn dF_at_26 rfl rfl ?_
        exact hQ
set_option maxHeartbeats 4000000 in
set_option maxRecDepth 100000 in
/-- Arrays.copyOf, the double -/
theorem k_copyB {G : GG} {h : HH} {a b C : Nat} {bs : List Nat} {Q : Option Value → HH → Prop} (hB : FB G h a b C bs) (hl : bs.length = C) (hC : C ≤ 4096) (hQ : ∀ h', h'.2.2 = h.2.2 + 1 → h'.1 h.2.2 = (102, 2 * C) → (∀ k, k < C → h'.2.1 h.2.2 k = h.2.1 b k) → (∀ x, x < h.2.2 → h'.1 x = h.1 x ∧ ∀ j, h'.2.1 x j = h.2.1 x j) → Q (some (.ref h.2.2)) h') : V G mJ_copyOf 0 (lv_args 0 [.ref b, .int (nI (2 * C))]) [] h 1 8192 Q := by
  obtain ⟨b1, b2, b3, b4, b5, b6, b7, b8, b9, b10⟩ := id hB
  refine V.iload_n dJ_copyOf_0 rfl ?_
  first | refine V.aload_n dJ_copyOf_1 rfl ?_ | refine V.aload_nN dJ_copyOf_1 rfl ?_
  refine V.alenN dJ_copyOf_2 b5 b6 rfl ?_
  refine V.icmp_ne (tgt := 14) dJ_copyOf_3 (by decide) (fun c_3 => ?_) (fun c_3 => ?_)
  · try simp (disch := omega) only [nI_ltI, nI_leI, nI_eq, zz_lt0, zz_ge0, zz_gt0, zz_le0, zz_eq0, zz_m1lt, zz_m1ge, zz_m1eq, bI_eq0, decide_eq_false_iff_not, decide_eq_true_eq, Decidable.not_not, not_true_eq_false, not_false_eq_true, Nat.not_lt, Nat.not_le, Bool.not_eq_false, Bool.not_eq_true] at c_3
    refine V.iload_n dJ_copyOf_14 rfl ?_
    refine V.newaN (kd := 102) (c2 := 0) (s2 := 0) dJ_copyOf_15 rfl ar_byte rfl (by omega) (by omega) (by omega) rfl ?_
    intro h10 e10 z10
    have kk : ∀ x, x < h.2.2 → h10.1 x = h.1 x ∧ ∀ j, h10.2.1 x j = h.2.1 x j := fun x hb => ⟨by rw [e10]; exact hn_kn (by omega), fun j => by rw [e10]; exact hn_fn (by omega)⟩
    have hkn : h10.1 h.2.2 = (102, 2 * C) := by (rw [e10]; exact hn_k rfl)
    have hcc : h10.1 b = (102, C) := (kk b b5.2).1.trans b6
    first | refine V.astore_n dJ_copyOf_17 (by decide) ?_ | refine V.astore_nN dJ_copyOf_17 (by decide) ?_
    first | refine V.aload_n dJ_copyOf_18 rfl ?_ | refine V.aload_nN dJ_copyOf_18 rfl ?_
    refine V.iconst (v := (nI 0)) dJ_copyOf_19 (by decide) ?_
    first | refine V.aload_n dJ_copyOf_20 rfl ?_ | refine V.aload_nN dJ_copyOf_20 rfl ?_
    refine V.iconst (v := (nI 0)) dJ_copyOf_21 (by decide) ?_
    first | refine V.aload_n dJ_copyOf_22 rfl ?_ | refine V.aload_nN dJ_copyOf_22 rfl ?_
    refine V.alenN dJ_copyOf_23 ⟨b5.1, by omega⟩ hcc rfl ?_
    refine V.iload_n dJ_copyOf_24 rfl ?_
    refine V.mmin dJ_copyOf_25 nl_J_304 mi_1 mi_2 mi_3 (by decide) (by decide) (Nat.le_of_ble_eq_true rfl) ?_
    rw [min_n (by omega) (by omega), Nat.min_eq_left (by omega)]
    refine V.acopy (ty := .byte) dJ_copyOf_28 nl_J_150 ac_1 ac_2 ac_3 (by decide) (by decide) (Nat.le_of_ble_eq_true rfl) ⟨b5.1, by omega⟩ ⟨by omega, by omega⟩ (by rw [hcc]; rfl) (by rw [hkn]; rfl) rfl (by rw [hcc]; show C < _; omega) (by rw [hkn]; show 2 * C < _; omega) (by rw [hcc]; show 0 + C ≤ C; omega) (by rw [hkn]; show 0 + C ≤ 2 * C; omega) (fun j hj => ⟨(nI (bs.getD j 0)).toInt8.toInt32, (by rw [Nat.zero_add]; exact ((kk b b5.2).2 j).trans (b9 j (by omega))), by_fit _ (b10 _ (getD_m (by omega)))⟩) ?_
    first | refine V.aload_n dJ_copyOf_31 rfl ?_ | refine V.aload_nN dJ_copyOf_31 rfl ?_
    first | refine V.areturn dJ_copyOf_32 rfl (by simp) ?_ | refine V.areturnN dJ_copyOf_32 rfl (by simp) ?_
    refine hQ _ z10 hkn (fun k hk => ?_) (fun x hx => ⟨(kk x hx).1, fun j => (hc_a (by omega)).trans ((kk x hx).2 j)⟩)
    rw [hc_in (by omega) (by omega), (kk b b5.2).2, Nat.sub_zero, Nat.zero_add]
  · try simp (disch := omega) only [nI_ltI, nI_leI, nI_eq, zz_lt0, zz_ge0, zz_gt0, zz_le0, zz_eq0, zz_m1lt, zz_m1ge, zz_m1eq, bI_eq0, decide_eq_false_iff_not, decide_eq_true_eq, Decidable.not_not, not_true_eq_false, not_false_eq_true, Nat.not_lt, Nat.not_le, Bool.not_eq_false, Bool.not_eq_true] at c_3
    all_goals omega
