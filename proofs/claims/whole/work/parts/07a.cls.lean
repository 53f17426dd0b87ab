set_option maxRecDepth 20000 in
theorem ml_D_17 : Cond.methodLink "PathTree$Directory" 17 (m_Y mE_order) ∈ tb := t_in 198 rfl rfl
/-- a field of an entry, of whichever kind -/
theorem fE {own : String} {idx k kd : Nat} (h2 : f_ok own idx 2 k) (h3 : f_ok own idx 3 k) (h : kd = 2 ∨ kd = 3) : f_ok own idx kd k := by
  rcases h with rfl | rfl
  · exact h2
  · exact h3
theorem pE {own : String} {idx k kd : Nat} {ty : FieldType} {ini : Prop} (h2 : p_ok own idx 2 k ty ini) (h3 : p_ok own idx 3 k ty ini) (h : kd = 2 ∨ kd = 3) : p_ok own idx kd k ty ini := by
  rcases h with rfl | rfl
  · exact h2
  · exact h3
/-- an entry at a: its name's array n, of nl characters nf -/
def EN (G : GG) (h : HH) (a n nl : Nat) (nf : Nat → Nat) : Prop := (g_0 G ≤ a ∧ a < h.2.2) ∧ ((h.1 a).1 = 2 ∨ (h.1 a).1 = 3) ∧ h.2.1 a 0 = .ref n ∧ (g_0 G ≤ n ∧ n < h.2.2) ∧ h.1 n = (101, nl) ∧ nl ≤ 60 ∧ (∀ k, k < nl → h.2.1 n k = .int (nI (nf k))) ∧ ∀ k, k < nl → nf k < 256
/-- the characters f .. t - 1 of an array c: q -/
def CS (G : GG) (h : HH) (c N : Nat) (q : Nat → Nat) (f t : Nat) : Prop := (g_0 G ≤ c ∧ c < h.2.2) ∧ h.1 c = (101, N) ∧ N < 2 ^ 20 ∧ f ≤ t ∧ t ≤ N ∧ (∀ j, f ≤ j → j < t → h.2.1 c j = .int (nI (q j))) ∧ ∀ j, f ≤ j → j < t → q j < 256
/-- the name is the characters -/
abbrev s_eq (nf : Nat → Nat) (nl : Nat) (q : Nat → Nat) (f t : Nat) : Prop := nl = t - f ∧ ∀ k, k < t - f → nf k = q (f + k)
set_option maxHeartbeats 4000000 in
set_option maxRecDepth 100000 in
/-- Entry.order -/
theorem k_order {G : GG} {h : HH} {a n nl cc N f t : Nat} {nf q : Nat → Nat} {Q : Option Value → HH → Prop} (hE : EN G h a n nl nf) (hC : CS G h cc N q f t) (hQ : ∀ r : Int32, (r = 0 ↔ s_eq nf nl q f t) → (r < 0 ↔ s_lt nf nl (fun j => q (f + j)) (t - f)) → Q (some (.int r)) h) : V G mE_order 0 (lv_args 0 [.ref a, .ref cc, .int (nI f), .int (nI t)]) [] h 0 0 Q := by
  obtain ⟨ha, hka, hna, hn, hkn, hnl, hnf, hnf2⟩ := id hE
  obtain ⟨hc, hkc, hN, hft, htN, hq, hq2⟩ := id hC
  have loop : ∀ r k, k + r = 100 → k ≤ nl → k ≤ t - f → (∀ j, j < k → nf j = q (f + j)) → V G mE_order 8 [(5, .int (nI k)), (4, .int (nI (t - f))), (0, .ref a), (1, .ref cc), (2, .int (nI f)), (3, .int (nI t))] [] h 0 0 Q := by
    intro r
    induction r with
    | zero =>
      intro k hr h1 h2
      omega
    | succ r ih =>
      intro k hr h1 h2 he
      refine V.iload dE_order_8 rfl ?_
      first | refine V.aload_n dE_order_10 rfl ?_ | refine V.aload_nN dE_order_10 rfl ?_
      refine V.getk dE_order_11 ha rfl (fE f_E_17_2 f_E_17_3 hka) hna ?_
      refine V.alenN dE_order_14 hn (by assumption) rfl ?_
      refine V.icmp_ge (tgt := 62) dE_order_15 (by decide) (fun c_15 => ?_) (fun c_15 => ?_)
      · try simp (disch := omega) only [nI_ltI, nI_leI, nI_eq, zz_lt0, zz_ge0, zz_gt0, zz_le0, zz_eq0, zz_m1lt, zz_m1ge, zz_m1eq, bI_eq0, decide_eq_false_iff_not, decide_eq_true_eq, Decidable.not_not, not_true_eq_false, not_false_eq_true, Nat.not_lt, Nat.not_le, Bool.not_eq_false, Bool.not_eq_true] at c_15
        first | refine V.aload_n dE_order_62 rfl ?_ | refine V.aload_nN dE_order_62 rfl ?_
        refine V.getk dE_order_63 ha rfl (fE f_E_17_2 f_E_17_3 hka) hna ?_
        refine V.alenN dE_order_66 hn (by assumption) rfl ?_
        refine V.iload dE_order_67 rfl ?_
        refine V.isub dE_order_69 ?_
        refine V.ireturn dE_order_70 rfl rfl ?_
        exact hQ _ ((zs_eq0 (by omega) (by omega)).trans ⟨fun z => ⟨by omega, fun j hj => he j (by omega)⟩, fun z => by omega⟩) ((zs_lt0 (by omega) (by omega)).trans (s_lt_end (n2 := fun j => q (f + j)) he (by omega) (by omega) (by omega)).symm)
      · try simp (disch := omega) only [nI_ltI, nI_leI, nI_eq, zz_lt0, zz_ge0, zz_gt0, zz_le0, zz_eq0, zz_m1lt, zz_m1ge, zz_m1eq, bI_eq0, decide_eq_false_iff_not, decide_eq_true_eq, Decidable.not_not, not_true_eq_false, not_false_eq_true, Nat.not_lt, Nat.not_le, Bool.not_eq_false, Bool.not_eq_true] at c_15
        refine V.iload dE_order_18 rfl ?_
        refine V.iload dE_order_20 rfl ?_
        refine V.icmp_ge (tgt := 62) dE_order_22 (by decide) (fun c_22 => ?_) (fun c_22 => ?_)
        · try simp (disch := omega) only [nI_ltI, nI_leI, nI_eq, zz_lt0, zz_ge0, zz_gt0, zz_le0, zz_eq0, zz_m1lt, zz_m1ge, zz_m1eq, bI_eq0, decide_eq_false_iff_not, decide_eq_true_eq, Decidable.not_not, not_true_eq_false, not_false_eq_true, Nat.not_lt, Nat.not_le, Bool.not_eq_false, Bool.not_eq_true] at c_22
          first | refine V.aload_n dE_order_62 rfl ?_ | refine V.aload_nN dE_order_62 rfl ?_
          refine V.getk dE_order_63 ha rfl (fE f_E_17_2 f_E_17_3 hka) hna ?_
          refine V.alenN dE_order_66 hn (by assumption) rfl ?_
          refine V.iload dE_order_67 rfl ?_
          refine V.isub dE_order_69 ?_
          refine V.ireturn dE_order_70 rfl rfl ?_
          exact hQ _ ((zs_eq0 (by omega) (by omega)).trans ⟨fun z => ⟨by omega, fun j hj => he j (by omega)⟩, fun z => by omega⟩) ((zs_lt0 (by omega) (by omega)).trans (s_lt_end (n2 := fun j => q (f + j)) he (by omega) (by omega) (by omega)).symm)
        · try simp (disch := omega) only [nI_ltI, nI_leI, nI_eq, zz_lt0, zz_ge0, zz_gt0, zz_le0, zz_eq0, zz_m1lt, zz_m1ge, zz_m1eq, bI_eq0, decide_eq_false_iff_not, decide_eq_true_eq, Decidable.not_not, not_true_eq_false, not_false_eq_true, Nat.not_lt, Nat.not_le, Bool.not_eq_false, Bool.not_eq_true] at c_22
          first | refine V.aload_n dE_order_25 rfl ?_ | refine V.aload_nN dE_order_25 rfl ?_
          refine V.getk dE_order_26 ha rfl (fE f_E_17_2 f_E_17_3 hka) hna ?_
          refine V.iload dE_order_29 rfl ?_
          have q1 := hnf2 k (by omega)
          have q2 := hq2 (f + k) (by omega) (by omega)
          refine V.caloadN dE_order_31 hn (by assumption) (by omega) (hnf k (by omega)) ?_
          first | refine V.aload_n dE_order_32 rfl ?_ | refine V.aload_nN dE_order_32 rfl ?_
          refine V.iload_n dE_order_33 rfl ?_
          refine V.iload dE_order_34 rfl ?_
          refine V.iaddN dE_order_36 ?_
          refine V.caloadN dE_order_37 hc (by assumption) (by omega) (hq (f + k) (by omega) (by omega)) ?_
          refine V.icmp_eq (tgt := 56) dE_order_38 (by decide) (fun c_38 => ?_) (fun c_38 => ?_)
          · try simp (disch := omega) only [nI_ltI, nI_leI, nI_eq, zz_lt0, zz_ge0, zz_gt0, zz_le0, zz_eq0, zz_m1lt, zz_m1ge, zz_m1eq, bI_eq0, decide_eq_false_iff_not, decide_eq_true_eq, Decidable.not_not, not_true_eq_false, not_false_eq_true, Nat.not_lt, Nat.not_le, Bool.not_eq_false, Bool.not_eq_true] at c_38
            refine V.iincN dE_order_56 rfl (by decide) ?_
            refine V.goto (tgt := 8) dE_order_59 (by decide) ?_
            exact V.re [5, 4, 0, 1, 2, 3] rfl (ih (k + 1) (by omega) (by omega) (by omega) (fun j hj => (Nat.lt_or_ge j k).elim (he j) (fun z => by (rw [show j = k by omega]; exact c_38))))
          · try simp (disch := omega) only [nI_ltI, nI_leI, nI_eq, zz_lt0, zz_ge0, zz_gt0, zz_le0, zz_eq0, zz_m1lt, zz_m1ge, zz_m1eq, bI_eq0, decide_eq_false_iff_not, decide_eq_true_eq, Decidable.not_not, not_true_eq_false, not_false_eq_true, Nat.not_lt, Nat.not_le, Bool.not_eq_false, Bool.not_eq_true] at c_38
            first | refine V.aload_n dE_order_41 rfl ?_ | refine V.aload_nN dE_order_41 rfl ?_
            refine V.getk dE_order_42 ha rfl (fE f_E_17_2 f_E_17_3 hka) hna ?_
            refine V.iload dE_order_45 rfl ?_
            refine V.caloadN dE_order_47 hn (by assumption) (by omega) (hnf k (by omega)) ?_
            first | refine V.aload_n dE_order_48 rfl ?_ | refine V.aload_nN dE_order_48 rfl ?_
            refine V.iload_n dE_order_49 rfl ?_
            refine V.iload dE_order_50 rfl ?_
            refine V.iaddN dE_order_52 ?_
            refine V.caloadN dE_order_53 hc (by assumption) (by omega) (hq (f + k) (by omega) (by omega)) ?_
            refine V.isub dE_order_54 ?_
            refine V.ireturn dE_order_55 rfl rfl ?_
            exact hQ _ ⟨fun z => absurd ((zs_eq0 (by omega) (by omega)).mp z) c_38, fun z => absurd (z.2 k (by omega)) c_38⟩ ((zs_lt0 (by omega) (by omega)).trans (s_lt_at (n2 := fun j => q (f + j)) he (by omega) (by omega) c_38).symm)
  refine V.iload_n dE_order_0 rfl ?_
  refine V.iload_n dE_order_1 rfl ?_
  refine V.isubN dE_order_2 (by omega) ?_
  refine V.istore dE_order_3 (by decide) ?_
  refine V.iconst (v := (nI 0)) dE_order_5 (by decide) ?_
  refine V.istore dE_order_6 (by decide) ?_
  exact loop 100 0 (by omega) (by omega) (by omega) (fun j hj => by omega)
section VORD
variable {G : GG} {i : MM} {pc : Nat} {lv : List (Nat × Value)} {st : List Value} {h : HH} {c s : Nat} {Q Q' : Option Value → HH → Prop}
theorem V.ord {idx b : Nat} {x1 : Nat} {x2 x3 : Int32} {rest : List Value} (hd : decode (m_C i) pc = .ok (.invokevirtual idx, 3)) (hw1 : Cond.methodLink (m_Y i).cls idx (m_Y mE_order) ∈ tb) (hb : g_0 G ≤ b ∧ b < h.2.2) (hkb : (h.1 b).1 = 2 ∨ (h.1 b).1 = 3) (hD : m_D mE_order < m_D i) (hW : 19 + m_L mE_order + m_W mE_order ≤ m_W i) (hw : (rest.map fun v => v.category).sum ≤ 8)
    (kk : V G mE_order 0 (lv_args 0 [.ref b, .ref x1, .int x2, .int x3]) [] h 0 0 (fun r h' => V G i (pc + 3) lv (r.toList ++ rest) h' c s Q)) : V G i pc lv (.int x3 :: .int x2 :: .ref x1 :: .ref b :: rest) h c s Q := by
  rcases hkb with e | e
  · exact V.callUk 0 _ 0 _ [.ref x1, .int x2, .int x3] hd okE_order hw1 smE_order rfl hb e rfl imE_order seE_order_D hD hW rfl rfl (Nat.le_of_ble_eq_true rfl) hw (Nat.le_of_eq (Nat.zero_add _)) (Nat.le_of_eq (Nat.zero_add _)) kk
  · exact V.callUk 0 _ 0 _ [.ref x1, .int x2, .int x3] hd okE_order hw1 smE_order rfl hb e rfl imE_order seE_order_F hD hW rfl rfl (Nat.le_of_ble_eq_true rfl) hw (Nat.le_of_eq (Nat.zero_add _)) (Nat.le_of_eq (Nat.zero_add _)) kk
end VORD
/-- a chain of entries: the numbers in l, at their addresses, from the reference v on -/
def lnk (ad : Nat → Nat) (h : HH) : Value → List Nat → Prop
  | v, [] => v = .null
  | v, x :: l => v = .ref (ad x) ∧ lnk ad h (h.2.1 (ad x) 2) l
theorem lnk_val {ad : Nat → Nat} {h : HH} {v : Value} {l : List Nat} (hl : lnk ad h v l) : v = .null ∨ ∃ a, v = .ref a := by
  cases l with
  | nil => exact Or.inl hl
  | cons x l => exact Or.inr ⟨_, hl.1⟩
set_option maxHeartbeats 4000000 in
set_option maxRecDepth 100000 in
/-- Directory.entryCalled -/
theorem k_entryCalled {G : GG} {h : HH} {d cc N f t : Nat} {q : Nat → Nat} {ad na ns : Nat → Nat} {nm : Nat → Nat → Nat} {l : List Nat} {Q : Option Value → HH → Prop} (hd : (g_0 G ≤ d ∧ d < h.2.2) ∧ (h.1 d).1 = 2) (hl : lnk ad h (h.2.1 d 3) l) (hE : ∀ x ∈ l, EN G h (ad x) (na x) (ns x) (nm x)) (hC : CS G h cc N q f t) (q0 : (∀ x ∈ l, ¬ s_eq (nm x) (ns x) q f t) → Q (some .null) h) (q1 : ∀ x ∈ l, s_eq (nm x) (ns x) q f t → Q (some (.ref (ad x))) h) : V G mD_entryCalled 0 (lv_args 0 [.ref d, .ref cc, .int (nI f), .int (nI t)]) [] h 0 0 Q := by
  obtain ⟨hda, hdk⟩ := hd
  have loop : ∀ (l : List Nat) (v : Value), lnk ad h v l → (∀ x ∈ l, EN G h (ad x) (na x) (ns x) (nm x)) → ((∀ x ∈ l, ¬ s_eq (nm x) (ns x) q f t) → Q (some .null) h) → (∀ x ∈ l, s_eq (nm x) (ns x) q f t → Q (some (.ref (ad x))) h) → V G mD_entryCalled 6 [(4, v), (0, .ref d), (1, .ref cc), (2, .int (nI f)), (3, .int (nI t))] [] h 0 0 Q := by
    intro l
    induction l with
    | nil =>
      intro v hv hE q0 q1
      obtain rfl : v = .null := hv
      first | refine V.aload dD_entryCalled_6 rfl ?_ | refine V.aloadN dD_entryCalled_6 rfl ?_
      refine V.ifnullN (tgt := 35) dD_entryCalled_8 (by decide) ?_
      refine V.null dD_entryCalled_35 ?_
      first | refine V.areturn dD_entryCalled_36 rfl (by simp) ?_ | refine V.areturnN dD_entryCalled_36 rfl (by simp) ?_
      exact q0 (fun x hx => absurd hx List.not_mem_nil)
    | cons x l ih =>
      intro v hv hE q0 q1
      obtain rfl : v = .ref (ad x) := hv.1
      have hex := hE x List.mem_cons_self
      rcases lnk_val hv.2 with e9 | ⟨b9, e9⟩
      · first | refine V.aload dD_entryCalled_6 rfl ?_ | refine V.aloadN dD_entryCalled_6 rfl ?_
        refine V.ifnull dD_entryCalled_8 ?_
        first | refine V.aload dD_entryCalled_11 rfl ?_ | refine V.aloadN dD_entryCalled_11 rfl ?_
        first | refine V.aload_n dD_entryCalled_13 rfl ?_ | refine V.aload_nN dD_entryCalled_13 rfl ?_
        refine V.iload_n dD_entryCalled_14 rfl ?_
        refine V.iload_n dD_entryCalled_15 rfl ?_
        refine V.ord dD_entryCalled_16 ml_D_17 hex.1 hex.2.1 (by decide) (by decide) (Nat.le_of_ble_eq_true rfl) (k_order hex hC (fun r hr1 hr2 => ?_))
        refine V.if_ne (tgt := 25) dD_entryCalled_19 (by decide) (fun c_19 => ?_) (fun c_19 => ?_)
        · skip
          first | refine V.aload dD_entryCalled_25 rfl ?_ | refine V.aloadN dD_entryCalled_25 rfl ?_
          refine V.getk dD_entryCalled_27 hex.1 rfl (fE f_D_21_2 f_D_21_3 hex.2.1) e9 ?_
          first | refine V.astore dD_entryCalled_30 (by decide) ?_ | refine V.astoreN dD_entryCalled_30 (by decide) ?_
          refine V.goto (tgt := 6) dD_entryCalled_32 (by decide) ?_
          exact V.re [4, 0, 1, 2, 3] rfl (ih _ (by rw [← e9]; exact hv.2) (fun y hy => hE y (List.mem_cons_of_mem _ hy)) (fun z => q0 (fun y hy => (List.mem_cons.mp hy).elim (fun e => by (rw [e]; exact fun w => c_19 (hr1.mpr w))) (z y))) (fun y hy => q1 y (List.mem_cons_of_mem _ hy)))
        · skip
          first | refine V.aload dD_entryCalled_22 rfl ?_ | refine V.aloadN dD_entryCalled_22 rfl ?_
          first | refine V.areturn dD_entryCalled_24 rfl (by simp) ?_ | refine V.areturnN dD_entryCalled_24 rfl (by simp) ?_
          exact q1 x List.mem_cons_self (hr1.mp c_19)
      · first | refine V.aload dD_entryCalled_6 rfl ?_ | refine V.aloadN dD_entryCalled_6 rfl ?_
        refine V.ifnull dD_entryCalled_8 ?_
        first | refine V.aload dD_entryCalled_11 rfl ?_ | refine V.aloadN dD_entryCalled_11 rfl ?_
        first | refine V.aload_n dD_entryCalled_13 rfl ?_ | refine V.aload_nN dD_entryCalled_13 rfl ?_
        refine V.iload_n dD_entryCalled_14 rfl ?_
        refine V.iload_n dD_entryCalled_15 rfl ?_
        refine V.ord dD_entryCalled_16 ml_D_17 hex.1 hex.2.1 (by decide) (by decide) (Nat.le_of_ble_eq_true rfl) (k_order hex hC (fun r hr1 hr2 => ?_))
        refine V.if_ne (tgt := 25) dD_entryCalled_19 (by decide) (fun c_19 => ?_) (fun c_19 => ?_)
        · skip
          first | refine V.aload dD_entryCalled_25 rfl ?_ | refine V.aloadN dD_entryCalled_25 rfl ?_
          refine V.getk dD_entryCalled_27 hex.1 rfl (fE f_D_21_2 f_D_21_3 hex.2.1) e9 ?_
          first | refine V.astore dD_entryCalled_30 (by decide) ?_ | refine V.astoreN dD_entryCalled_30 (by decide) ?_
          refine V.goto (tgt := 6) dD_entryCalled_32 (by decide) ?_
          exact V.re [4, 0, 1, 2, 3] rfl (ih _ (by rw [← e9]; exact hv.2) (fun y hy => hE y (List.mem_cons_of_mem _ hy)) (fun z => q0 (fun y hy => (List.mem_cons.mp hy).elim (fun e => by (rw [e]; exact fun w => c_19 (hr1.mpr w))) (z y))) (fun y hy => q1 y (List.mem_cons_of_mem _ hy)))
        · skip
          first | refine V.aload dD_entryCalled_22 rfl ?_ | refine V.aloadN dD_entryCalled_22 rfl ?_
          first | refine V.areturn dD_entryCalled_24 rfl (by simp) ?_ | refine V.areturnN dD_entryCalled_24 rfl (by simp) ?_
          exact q1 x List.mem_cons_self (hr1.mp c_19)
  rcases lnk_val hl with e9 | ⟨b9, e9⟩
  · first | refine V.aload_n dD_entryCalled_0 rfl ?_ | refine V.aload_nN dD_entryCalled_0 rfl ?_
    refine V.getk dD_entryCalled_1 hda hdk f_D_7_2 e9 ?_
    first | refine V.astore dD_entryCalled_4 (by decide) ?_ | refine V.astoreN dD_entryCalled_4 (by decide) ?_
    exact loop l _ (by rw [← e9]; exact hl) hE q0 q1
  · first | refine V.aload_n dD_entryCalled_0 rfl ?_ | refine V.aload_nN dD_entryCalled_0 rfl ?_
    refine V.getk dD_entryCalled_1 hda hdk f_D_7_2 e9 ?_
    first | refine V.astore dD_entryCalled_4 (by decide) ?_ | refine V.astoreN dD_entryCalled_4 (by decide) ?_
    exact loop l _ (by rw [← e9]; exact hl) hE q0 q1
set_option maxHeartbeats 4000000 in
set_option maxRecDepth 100000 in
/-- Directory.entryAt -/
theorem k_entryAt {G : GG} {h : HH} {d : Nat} {ad na ns : Nat → Nat} {nm : Nat → Nat → Nat} {l : List Nat} {j : Int32} {Q : Option Value → HH → Prop} (hd : (g_0 G ≤ d ∧ d < h.2.2) ∧ (h.1 d).1 = 2) (hl : lnk ad h (h.2.1 d 3) l) (hz : h.2.1 d 4 = .int (nI l.length)) (hl3 : l.length ≤ 300) (hE : ∀ x ∈ l, EN G h (ad x) (na x) (ns x) (nm x)) (q0 : (∀ y, y < l.length → ¬ j = nI y) → Q (some .null) h) (q1 : ∀ y x, j = nI y → l[y]? = some x → Q (some (.ref (ad x))) h) : V G mD_entryAt 0 (lv_args 0 [.ref d, .int j]) [] h 0 0 Q := by
  obtain ⟨hda, hdk⟩ := hd
  rcases pk_ix j (n := l.length) (by omega) with hj | hj | ⟨y, hy, rfl⟩
  · refine V.iload_n dD_entryAt_0 rfl ?_
    refine V.if_lt (tgt := 12) dD_entryAt_1 (by decide) (fun c_1 => ?_) (fun c_1 => ?_)
    · skip
      refine V.null dD_entryAt_12 ?_
      first | refine V.areturn dD_entryAt_13 rfl (by simp) ?_ | refine V.areturnN dD_entryAt_13 rfl (by simp) ?_
      exact q0 (fun y hy z => by (rw [z] at hj; exact nI_pos (by omega) hj))
    · skip
      exact absurd hj c_1
  · refine V.iload_n dD_entryAt_0 rfl ?_
    refine V.if_lt (tgt := 12) dD_entryAt_1 (by decide) (fun c_1 => ?_) (fun c_1 => ?_)
    · skip
      refine V.null dD_entryAt_12 ?_
      first | refine V.areturn dD_entryAt_13 rfl (by simp) ?_ | refine V.areturnN dD_entryAt_13 rfl (by simp) ?_
      exact q0 (fun y hy z => by (rw [z] at hj; have := (nI_leI (by omega) (by omega)).mp hj; omega))
    · skip
      refine V.iload_n dD_entryAt_4 rfl ?_
      first | refine V.aload_n dD_entryAt_5 rfl ?_ | refine V.aload_nN dD_entryAt_5 rfl ?_
      refine V.getk dD_entryAt_6 hda hdk f_D_13_2 hz ?_
      refine V.icmp_lt (tgt := 14) dD_entryAt_9 (by decide) (fun c_9 => ?_) (fun c_9 => ?_)
      · skip
        exact absurd hj (Int32.not_le.mpr c_9)
      · skip
        refine V.null dD_entryAt_12 ?_
        first | refine V.areturn dD_entryAt_13 rfl (by simp) ?_ | refine V.areturnN dD_entryAt_13 rfl (by simp) ?_
        exact q0 (fun y hy z => by (rw [z] at hj; have := (nI_leI (by omega) (by omega)).mp hj; omega))
  · have loop : ∀ (l : List Nat) (k : Nat) (v : Value), lnk ad h v l → (∀ x ∈ l, EN G h (ad x) (na x) (ns x) (nm x)) → k ≤ y → y < k + l.length → (∀ x, l[y - k]? = some x → Q (some (.ref (ad x))) h) → V G mD_entryAt 21 [(3, .int (nI k)), (2, v), (0, .ref d), (1, .int (nI y))] [] h 0 0 Q := by
      intro l
      induction l with
      | nil =>
        intro k v hv hE hk hly hQ
        rw [List.length_nil] at hly
        omega
      | cons x l ih =>
        intro k v hv hE hk hly hQ
        obtain rfl : v = .ref (ad x) := hv.1
        rcases lnk_val hv.2 with e9 | ⟨b9, e9⟩
        · refine V.iload_n dD_entryAt_21 rfl ?_
          refine V.iload_n dD_entryAt_22 rfl ?_
          refine V.icmp_ge (tgt := 41) dD_entryAt_23 (by decide) (fun c_23 => ?_) (fun c_23 => ?_)
          · try simp (disch := omega) only [nI_ltI, nI_leI, nI_eq, zz_lt0, zz_ge0, zz_gt0, zz_le0, zz_eq0, zz_m1lt, zz_m1ge, zz_m1eq, bI_eq0, decide_eq_false_iff_not, decide_eq_true_eq, Decidable.not_not, not_true_eq_false, not_false_eq_true, Nat.not_lt, Nat.not_le, Bool.not_eq_false, Bool.not_eq_true] at c_23
            first | refine V.aload_n dD_entryAt_41 rfl ?_ | refine V.aload_nN dD_entryAt_41 rfl ?_
            first | refine V.areturn dD_entryAt_42 rfl (by simp) ?_ | refine V.areturnN dD_entryAt_42 rfl (by simp) ?_
            exact hQ x (by rw [show y - k = 0 by omega]; rfl)
          · try simp (disch := omega) only [nI_ltI, nI_leI, nI_eq, zz_lt0, zz_ge0, zz_gt0, zz_le0, zz_eq0, zz_m1lt, zz_m1ge, zz_m1eq, bI_eq0, decide_eq_false_iff_not, decide_eq_true_eq, Decidable.not_not, not_true_eq_false, not_false_eq_true, Nat.not_lt, Nat.not_le, Bool.not_eq_false, Bool.not_eq_true] at c_23
            first | refine V.aload_n dD_entryAt_26 rfl ?_ | refine V.aload_nN dD_entryAt_26 rfl ?_
            refine V.ifnull dD_entryAt_27 ?_
            first | refine V.aload_n dD_entryAt_30 rfl ?_ | refine V.aload_nN dD_entryAt_30 rfl ?_
            refine V.getk dD_entryAt_31 (hE x List.mem_cons_self).1 rfl (fE f_D_21_2 f_D_21_3 (hE x List.mem_cons_self).2.1) e9 ?_
            first | refine V.astore_n dD_entryAt_34 (by decide) ?_ | refine V.astore_nN dD_entryAt_34 (by decide) ?_
            refine V.iincN dD_entryAt_35 rfl (by decide) ?_
            refine V.goto (tgt := 21) dD_entryAt_38 (by decide) ?_
            exact V.re [3, 2, 0, 1] rfl (ih (k + 1) _ (by rw [← e9]; exact hv.2) (fun y hy => hE y (List.mem_cons_of_mem _ hy)) (by omega) (by rw [List.length_cons] at hly; omega) (fun z hz => hQ z (by rw [show y - k = (y - (k + 1)) + 1 by omega]; exact hz)))
        · refine V.iload_n dD_entryAt_21 rfl ?_
          refine V.iload_n dD_entryAt_22 rfl ?_
          refine V.icmp_ge (tgt := 41) dD_entryAt_23 (by decide) (fun c_23 => ?_) (fun c_23 => ?_)
          · try simp (disch := omega) only [nI_ltI, nI_leI, nI_eq, zz_lt0, zz_ge0, zz_gt0, zz_le0, zz_eq0, zz_m1lt, zz_m1ge, zz_m1eq, bI_eq0, decide_eq_false_iff_not, decide_eq_true_eq, Decidable.not_not, not_true_eq_false, not_false_eq_true, Nat.not_lt, Nat.not_le, Bool.not_eq_false, Bool.not_eq_true] at c_23
            first | refine V.aload_n dD_entryAt_41 rfl ?_ | refine V.aload_nN dD_entryAt_41 rfl ?_
            first | refine V.areturn dD_entryAt_42 rfl (by simp) ?_ | refine V.areturnN dD_entryAt_42 rfl (by simp) ?_
            exact hQ x (by rw [show y - k = 0 by omega]; rfl)
          · try simp (disch := omega) only [nI_ltI, nI_leI, nI_eq, zz_lt0, zz_ge0, zz_gt0, zz_le0, zz_eq0, zz_m1lt, zz_m1ge, zz_m1eq, bI_eq0, decide_eq_false_iff_not, decide_eq_true_eq, Decidable.not_not, not_true_eq_false, not_false_eq_true, Nat.not_lt, Nat.not_le, Bool.not_eq_false, Bool.not_eq_true] at c_23
            first | refine V.aload_n dD_entryAt_26 rfl ?_ | refine V.aload_nN dD_entryAt_26 rfl ?_
            refine V.ifnull dD_entryAt_27 ?_
            first | refine V.aload_n dD_entryAt_30 rfl ?_ | refine V.aload_nN dD_entryAt_30 rfl ?_
            refine V.getk dD_entryAt_31 (hE x List.mem_cons_self).1 rfl (fE f_D_21_2 f_D_21_3 (hE x List.mem_cons_self).2.1) e9 ?_
            first | refine V.astore_n dD_entryAt_34 (by decide) ?_ | refine V.astore_nN dD_entryAt_34 (by decide) ?_
            refine V.iincN dD_entryAt_35 rfl (by decide) ?_
            refine V.goto (tgt := 21) dD_entryAt_38 (by decide) ?_
            exact V.re [3, 2, 0, 1] rfl (ih (k + 1) _ (by rw [← e9]; exact hv.2) (fun y hy => hE y (List.mem_cons_of_mem _ hy)) (by omega) (by rw [List.length_cons] at hly; omega) (fun z hz => hQ z (by rw [show y - k = (y - (k + 1)) + 1 by omega]; exact hz)))
    rcases lnk_val hl with e9 | ⟨b9, e9⟩
    · refine V.iload_n dD_entryAt_0 rfl ?_
      refine V.if_lt (tgt := 12) dD_entryAt_1 (by decide) (fun c_1 => ?_) (fun c_1 => ?_)
      · try simp (disch := omega) only [nI_ltI, nI_leI, nI_eq, zz_lt0, zz_ge0, zz_gt0, zz_le0, zz_eq0, zz_m1lt, zz_m1ge, zz_m1eq, bI_eq0, decide_eq_false_iff_not, decide_eq_true_eq, Decidable.not_not, not_true_eq_false, not_false_eq_true, Nat.not_lt, Nat.not_le, Bool.not_eq_false, Bool.not_eq_true] at c_1
        all_goals omega
      · try simp (disch := omega) only [nI_ltI, nI_leI, nI_eq, zz_lt0, zz_ge0, zz_gt0, zz_le0, zz_eq0, zz_m1lt, zz_m1ge, zz_m1eq, bI_eq0, decide_eq_false_iff_not, decide_eq_true_eq, Decidable.not_not, not_true_eq_false, not_false_eq_true, Nat.not_lt, Nat.not_le, Bool.not_eq_false, Bool.not_eq_true] at c_1
        refine V.iload_n dD_entryAt_4 rfl ?_
        first | refine V.aload_n dD_entryAt_5 rfl ?_ | refine V.aload_nN dD_entryAt_5 rfl ?_
        refine V.getk dD_entryAt_6 hda hdk f_D_13_2 hz ?_
        refine V.icmp_lt (tgt := 14) dD_entryAt_9 (by decide) (fun c_9 => ?_) (fun c_9 => ?_)
        · try simp (disch := omega) only [nI_ltI, nI_leI, nI_eq, zz_lt0, zz_ge0, zz_gt0, zz_le0, zz_eq0, zz_m1lt, zz_m1ge, zz_m1eq, bI_eq0, decide_eq_false_iff_not, decide_eq_true_eq, Decidable.not_not, not_true_eq_false, not_false_eq_true, Nat.not_lt, Nat.not_le, Bool.not_eq_false, Bool.not_eq_true] at c_9
          first | refine V.aload_n dD_entryAt_14 rfl ?_ | refine V.aload_nN dD_entryAt_14 rfl ?_
          refine V.getk dD_entryAt_15 hda hdk f_D_7_2 e9 ?_
          first | refine V.astore_n dD_entryAt_18 (by decide) ?_ | refine V.astore_nN dD_entryAt_18 (by decide) ?_
          refine V.iconst (v := (nI 0)) dD_entryAt_19 (by decide) ?_
          refine V.istore_n dD_entryAt_20 (by decide) ?_
          exact loop l 0 _ (by rw [← e9]; exact hl) hE (by omega) (by omega) (fun x hx => q1 y x rfl hx)
        · try simp (disch := omega) only [nI_ltI, nI_leI, nI_eq, zz_lt0, zz_ge0, zz_gt0, zz_le0, zz_eq0, zz_m1lt, zz_m1ge, zz_m1eq, bI_eq0, decide_eq_false_iff_not, decide_eq_true_eq, Decidable.not_not, not_true_eq_false, not_false_eq_true, Nat.not_lt, Nat.not_le, Bool.not_eq_false, Bool.not_eq_true] at c_9
          all_goals omega
    · refine V.iload_n dD_entryAt_0 rfl ?_
      refine V.if_lt (tgt := 12) dD_entryAt_1 (by decide) (fun c_1 => ?_) (fun c_1 => ?_)
      · try simp (disch := omega) only [nI_ltI, nI_leI, nI_eq, zz_lt0, zz_ge0, zz_gt0, zz_le0, zz_eq0, zz_m1lt, zz_m1ge, zz_m1eq, bI_eq0, decide_eq_false_iff_not, decide_eq_true_eq, Decidable.not_not, not_true_eq_false, not_false_eq_true, Nat.not_lt, Nat.not_le, Bool.not_eq_false, Bool.not_eq_true] at c_1
        all_goals omega
      · try simp (disch := omega) only [nI_ltI, nI_leI, nI_eq, zz_lt0, zz_ge0, zz_gt0, zz_le0, zz_eq0, zz_m1lt, zz_m1ge, zz_m1eq, bI_eq0, decide_eq_false_iff_not, decide_eq_true_eq, Decidable.not_not, not_true_eq_false, not_false_eq_true, Nat.not_lt, Nat.not_le, Bool.not_eq_false, Bool.not_eq_true] at c_1
        refine V.iload_n dD_entryAt_4 rfl ?_
        first | refine V.aload_n dD_entryAt_5 rfl ?_ | refine V.aload_nN dD_entryAt_5 rfl ?_
        refine V.getk dD_entryAt_6 hda hdk f_D_13_2 hz ?_
        refine V.icmp_lt (tgt := 14) dD_entryAt_9 (by decide) (fun c_9 => ?_) (fun c_9 => ?_)
        · try simp (disch := omega) only [nI_ltI, nI_leI, nI_eq, zz_lt0, zz_ge0, zz_gt0, zz_le0, zz_eq0, zz_m1lt, zz_m1ge, zz_m1eq, bI_eq0, decide_eq_false_iff_not, decide_eq_true_eq, Decidable.not_not, not_true_eq_false, not_false_eq_true, Nat.not_lt, Nat.not_le, Bool.not_eq_false, Bool.not_eq_true] at c_9
          first | refine V.aload_n dD_entryAt_14 rfl ?_ | refine V.aload_nN dD_entryAt_14 rfl ?_
          refine V.getk dD_entryAt_15 hda hdk f_D_7_2 e9 ?_
          first | refine V.astore_n dD_entryAt_18 (by decide) ?_ | refine V.astore_nN dD_entryAt_18 (by decide) ?_
          refine V.iconst (v := (nI 0)) dD_entryAt_19 (by decide) ?_
          refine V.istore_n dD_entryAt_20 (by decide) ?_
          exact loop l 0 _ (by rw [← e9]; exact hl) hE (by omega) (by omega) (fun x hx => q1 y x rfl hx)
        · try simp (disch := omega) only [nI_ltI, nI_leI, nI_eq, zz_lt0, zz_ge0, zz_gt0, zz_le0, zz_eq0, zz_m1lt, zz_m1ge, zz_m1eq, bI_eq0, decide_eq_false_iff_not, decide_eq_true_eq, Decidable.not_not, not_true_eq_false, not_false_eq_true, Nat.not_lt, Nat.not_le, Bool.not_eq_false, Bool.not_eq_true] at c_9
          all_goals omega
