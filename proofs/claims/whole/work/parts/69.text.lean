def MkQ (S : Shp) (I : Mem) (len p key : Nat) : Option Value → Shp → Mem → Prop := fun r S' J => r = some (.ref S.1) ∧ S'.1 = S.1 + 3 ∧ (∀ i, i < S.1 → S'.2.1 i = S.2.1 i ∧ S'.2.2 i = S.2.2 i ∧ J i = I i) ∧ TxOk S' J S.1 len (max p 1) (I 25) ∧ J S.1 0 = nI key ∧ J S.1 1 = nI p
theorem mk_q {S : Shp} {I : Mem} {len p key : Nat} (h77 : 77 ≤ S.1) (h3 : S.1 % 3 = 2) (hl : len ≤ 96) (hp : p ≤ 96) : MkQ S I len p key (some (.ref S.1)) (tS (nS (nS S (6, 0)) (9, len)) S.1 (S.1 + 1) (max p 1)) (nM (nS (nS S (6, 0)) (9, len)) (u2 (u2 (sR (nM (nS S (6, 0)) (nM S I)) (S.1 + 1) (va_cpy (nM S I 25) (fun _ => 0) 0 0 len)) S.1 0 (nI key)) S.1 1 (nI p))) := by
  refine ⟨rfl, rfl, fun i hi => ⟨?_, ?_, ?_⟩, ⟨h77, h3, ?_, ?_, ?_, ?_, ?_, ?_, fun k hk => ?_, hl, by omega, by omega⟩, ?_, ?_⟩
  · show (if i = S.1 + 1 + 1 then _ else if i = S.1 + 1 then _ else if i = S.1 then _ else S.2.1 i) = _
    rw [if_neg (by omega), if_neg (by omega), if_neg (by omega)]
  · funext j
    show (if i = S.1 ∧ j = 3 then _ else if i = S.1 + 1 + 1 then none else if i = S.1 ∧ j = 2 then _ else if i = S.1 + 1 then none else if i = S.1 then none else S.2.2 i j) = _
    rw [if_neg (by omega), if_neg (by omega), if_neg (by omega), if_neg (by omega), if_neg (by omega)]
  · funext j
    show (if i = S.1 + 1 + 1 then 0 else _) = _
    rw [if_neg (by omega), u2_a (by omega), u2_a (by omega), sR_n (by omega)]
    show (if i = S.1 + 1 then 0 else if i = S.1 then 0 else I i j) = _
    rw [if_neg (by omega), if_neg (by omega)]
  · show S.1 + 2 < S.1 + 1 + 1 + 1
    omega
  · show (if S.1 = S.1 + 1 + 1 then _ else if S.1 = S.1 + 1 then _ else if S.1 = S.1 then (6, 0) else S.2.1 S.1) = _
    rw [if_neg (by omega), if_neg (by omega), if_pos rfl]
  · show (if S.1 + 1 = S.1 + 1 + 1 then _ else if S.1 + 1 = S.1 + 1 then (9, len) else _) = _
    rw [if_neg (by omega), if_pos rfl]
  · show (if S.1 + 2 = S.1 + 1 + 1 then (9, max p 1) else _) = _
    rw [if_pos (by omega)]
  · show (if S.1 = S.1 ∧ 2 = 3 then _ else if S.1 = S.1 + 1 + 1 then none else if S.1 = S.1 ∧ 2 = 2 then some (S.1 + 1) else _) = _
    rw [if_neg (by omega), if_neg (by omega), if_pos ⟨rfl, rfl⟩]
  · show (if S.1 = S.1 ∧ 3 = 3 then some (S.1 + 1 + 1) else _) = _
    rw [if_pos ⟨rfl, rfl⟩]
  · show (if S.1 + 1 = S.1 + 1 + 1 then 0 else _) = _
    rw [if_neg (by omega), u2_a (by omega), u2_a (by omega), sR_s]
    unfold va_cpy
    rw [if_pos ⟨Nat.zero_le _, by omega⟩]
    show (if 25 = S.1 then 0 else I 25 (0 + (k - 0))) = _
    rw [if_neg (by omega), Nat.zero_add, Nat.sub_zero]
  · show (if S.1 = S.1 + 1 + 1 then 0 else _) = _
    rw [if_neg (by omega), u2_k (by decide), u2_s]
  · show (if S.1 = S.1 + 1 + 1 then 0 else _) = _
    rw [if_neg (by omega), u2_s]
theorem c_X2_makeText {G : GX} {S : Shp} {I : Mem} {d len p key : Nat} (hsh : SHP S) (h5 : I 22 5 = nI key) (h8 : I 22 8 = nI p) (h7 : I 22 7 = nI len) (hl : len < 96) (hp : p ≤ 96) (cap : S.1 + 3 ≤ 3000) (h3 : S.1 % 3 = 2) (hd : 4 ≤ d) : PM G yX2_makeText cX2_makeText 1 (some (.object "BeggarCorners$Text")) d 3 196 [.ref 22] S I (MkQ S I len p key) := by
  have h77 := hsh.1
  have sh2 : SHP (nS S (6, 0)) := hsh.nS _ (by omega)
  have e24 : ∀ k, nM S I 22 k = I 22 k := fun k => if_neg (by omega)
  have ht3 : S.1 < (nS (nS S (6, 0)) (9, len)).1 := by show S.1 < S.1 + 1 + 1; omega
  have tt3 : (nS (nS S (6, 0)) (9, len)).2.1 S.1 = (6, 0) := by
    show (if S.1 = S.1 + 1 then _ else if S.1 = S.1 then (6, 0) else _) = _
    rw [if_neg (by omega), if_pos rfl]
  refine PM.of (ls := [some (.ref 22)]) (by decide) rfl (Nat.le_of_ble_eq_true rfl) rfl ?_
  show PW G RX2 "makeText" _ _ _ _ _ _ _ _ _ _ _ _
  refine PW.room (d := d) (kc := 0 + (0 + 1) + (0 + 1) + 1) (ks := 0 + (0 + max p 1) + (0 + len) + nFl 6) ?_ (Nat.le_refl _) (by omega) (by show 0 + (0 + max p 1) + (0 + len) + 4 ≤ 196; omega)
  refine P_new (pc' := 3) dX2_makeText_0 rfl cl_X2_58 (by omega) ?_
  refine P_dup (pc' := 4) dX2_makeText_3 rfl rfl ?_
  refine P_aload0 (pc' := 5) dX2_makeText_4 rfl ?_
  refine P_geti (pc' := 8) dX2_makeText_5 rfl fl_X2_31 rfl (l_22 sh2) (t_22 sh2) ?_
  refine P_as ((e24 5).trans h5) ?_
  refine P_aload0 (pc' := 9) dX2_makeText_8 rfl ?_
  refine P_geti (pc' := 12) dX2_makeText_9 rfl fl_X2_41 rfl (l_22 sh2) (t_22 sh2) ?_
  refine P_as ((e24 8).trans h8) ?_
  refine P_aload0 (pc' := 13) dX2_makeText_12 rfl ?_
  refine P_getr (pc' := 16) dX2_makeText_13 rfl fl_X2_34 rfl (l_22 sh2) (t_22 sh2) (q_22_6 sh2) ?_
  refine P_aload0 (pc' := 17) dX2_makeText_16 rfl ?_
  refine P_geti (pc' := 20) dX2_makeText_17 rfl fl_X2_38 rfl (l_22 sh2) (t_22 sh2) ?_
  refine P_as ((e24 7).trans h7) ?_
  refine P_callS2 (pc' := 23) dX2_makeText_20 rfl lk_X2_60 (c_copyOf (d := 2) (l_25 sh2) (t_25 sh2) (by decide) hl (by show S.1 + 1 + 1 ≤ 3000; omega) (by omega)) (by omega) (Nat.le_of_ble_eq_true rfl) (fun r S' I' hq => ?_)
  obtain ⟨rfl, rfl, rfl⟩ := hq
  refine P_callI3 (pc' := 26) dX2_makeText_23 rfl lk_X2_66 (c_X7_init (d := 1) ht3 tt3 hp (by show S.1 + 1 + 1 + 1 ≤ 3000; omega) (by omega)) (by omega) (Nat.le_of_ble_eq_true rfl) (fun r S' I' hq => ?_)
  obtain ⟨rfl, rfl, rfl⟩ := hq
  refine P_aret dX2_makeText_26 ?_
  exact mk_q h77 h3 (by omega) hp
/-! code as a list and as a row -/
theorem L_ok {cd : Nat → Int32} : ∀ (C : List Int32) (i tp : Nat), (∀ k, k < C.length → cd (i + k) = C.getD k 0) → (OkC cd C.length i tp ↔ okL C tp) ∧ dpN cd C.length i tp = dpL C tp ∧ puN cd C.length i = puL C := by
  intro C
  induction C with
  | nil => intro i tp _; exact ⟨Iff.rfl, rfl, rfl⟩
  | cons c C ih =>
    intro i tp h
    have h0 : cd i = c := h 0 (Nat.succ_pos _)
    obtain ⟨a1, a2, a3⟩ := ih (i + 1) (dpS c tp) (fun k hk => by
      have := h (k + 1) (Nat.succ_lt_succ hk)
      rw [show i + 1 + k = i + (k + 1) by omega, this]; rfl)
    refine ⟨?_, ?_, ?_⟩
    · show (okS (cd i) tp ∧ OkC cd C.length (i + 1) (dpS (cd i) tp)) ↔ (okS c tp ∧ okL C (dpS c tp))
      rw [h0, a1]
    · show dpN cd C.length (i + 1) (dpS (cd i) tp) = dpL C (dpS c tp)
      rw [h0, a2]
    · show (if cd i < 0 then 0 else 1) + puN cd C.length (i + 1) = (if c < 0 then 0 else 1) + puL C
      rw [h0, a3]
def mkTx (key : Nat) (C : List Int32) : Tx := (key, C.length, puL C, fun k => C.getD k 0)
theorem gd_KP {key : Nat} {C : List Int32} (h : gd key C) (hk : key ≤ 2) (hl : C.length ≤ 96) : KP (mkTx key C) := by
  obtain ⟨a1, a2, a3⟩ := L_ok (cd := fun k => C.getD k 0) C 0 0 (fun k _ => by rw [Nat.zero_add])
  obtain ⟨h1, h2, -⟩ := h
  obtain ⟨o1, o2⟩ := h1 0 (by omega)
  refine ⟨?_, a3.symm, ?_, a1.mpr o1, hk, hl⟩
  · show 1 ≤ dpN (fun k => C.getD k 0) C.length 0 0
    rw [a2, o2]; omega
  · rcases h2 with h2 | h2
    · exact Or.inl h2
    · refine Or.inr (fun k hk => ?_)
      have hk : k < C.length := hk
      show C.getD k 0 ≠ _
      rw [List.getD_eq_getElem?_getD, List.getElem?_eq_getElem hk]
      exact h2 _ (List.getElem_mem hk)
theorem puL_le : ∀ (C : List Int32), puL C ≤ C.length := by
  intro C
  induction C with
  | nil => exact Nat.le_refl _
  | cons c C ih =>
    show (if c < 0 then 0 else 1) + puL C ≤ C.length + 1
    split <;> omega
/-! what a text comes to -/
abbrev TOut : Type := Nat ⊕ (Nat × List Int32)
def TO (b : Nat → Int32) (n : Nat) : TOut → Prop
  | .inl p => match kyO b (advL b n (3, 0, 0)) with
    | none => p = (advL b n (3, 0, 0)).2.1
    | some key => Fa key b n (advL b n (advL b n (3, 0, 0)), [], [], true, [false], 0) p
  | .inr (key, C) => kyO b (advL b n (3, 0, 0)) = some key ∧ ∃ j p, runM key b n j (advL b n (advL b n (3, 0, 0)), [], [], true, [false], 0) = some (some (C, puL C), p)
def XO (b : Nat → Int32) (n : Nat) : TOut → Prop
  | .inl p => match kyO b (advL b n (3, 0, 0)) with
    | none => p = (advL b n (3, 0, 0)).2.1
    | some key => (if (ffS b n key).1.1 = 0 then ffS b n key else fl (ffS b n key)).2.1 = some p
  | .inr (key, C) => kyO b (advL b n (3, 0, 0)) = some key ∧ (if (ffS b n key).1.1 = 0 then ffS b n key else fl (ffS b n key)) = ffS b n key ∧ (ffS b n key).2 = (none, C.map enS, puL C) ∧ gd key C ∧ C.length < 96 ∧ key ≤ 2
theorem ky_le {b : Nat → Int32} {x : Lx} {k : Nat} (hk : kyO b x = some k) : k ≤ 2 ∧ x.1 = 1 ∧ 3 ≤ x.2.2 - x.2.1 := by
  unfold kyO at hk
  split at hk
  · rename_i q
    have key : ∀ (m j : Nat), kyF b x m j = some k → j ≤ k ∧ k < j + m ∧ wdV b x k ≠ 0 := by
      intro m
      induction m with
      | zero => intro j z; cases z
      | succ m ih =>
        intro j z
        rw [kyF_s] at z
        split at z
        · have := ih (j + 1) z
          exact ⟨by omega, by omega, this.2.2⟩
        · rename_i z0
          cases z
          exact ⟨by omega, by omega, z0⟩
    obtain ⟨-, a2, a3⟩ := key 3 0 hk
    refine ⟨by omega, q, ?_⟩
    unfold wdV at a3
    split at a3
    · rename_i e
      have : k = 0 ∨ k = 1 ∨ k = 2 := by omega
      rcases this with rfl | rfl | rfl
      · rw [e]; decide
      · rw [e]; decide
      · rw [e]; decide
    · exact absurd rfl a3
  · cases hk
theorem T_ex {b : Nat → Int32} {n : Nat} (hn : n ≤ 96) : ∃ o, TO b n o ∧ XO b n o := by
  obtain ⟨k0, a1⟩ := advL_ok (b := b) (n := n) (x := (3, 0, 0)) (Nat.zero_le n)
  obtain ⟨k1, a2⟩ := advL_ok (b := b) (n := n) (x := advL b n (3, 0, 0)) k0.2.2.2.1
  cases hk : kyO b (advL b n (3, 0, 0)) with
  | none =>
    refine ⟨.inl (advL b n (3, 0, 0)).2.1, ?_, ?_⟩
    · show (match kyO b (advL b n (3, 0, 0)) with | none => _ | some key => _)
      rw [hk]
    · show (match kyO b (advL b n (3, 0, 0)) with | none => _ | some key => _)
      rw [hk]
  | some key =>
    obtain ⟨b1, b2, b3⟩ := ky_le hk
    obtain ⟨c1, c2⟩ := sim_all (key := key) (b := b) hn k1 (s' := ffS b n key) rfl
    cases hf : (if (ffS b n key).1.1 = 0 then ffS b n key else fl (ffS b n key)).2.1 with
    | some p =>
      refine ⟨.inl p, ?_, ?_⟩
      · show (match kyO b (advL b n (3, 0, 0)) with | none => _ | some key => _)
        rw [hk]
        exact c1 p hf
      · show (match kyO b (advL b n (3, 0, 0)) with | none => _ | some key => _)
        rw [hk]
        exact hf
    | none =>
      obtain ⟨d1, C, j, d2, d3, d4, d5, d6⟩ := c2 hf
      refine ⟨.inr (key, C), ⟨hk, j, _, d2⟩, hk, if_pos d1, ?_, d5, by omega, b1⟩
      rw [if_pos d1] at hf
      exact Prod.ext hf (Prod.ext d3 d4)
/-! one text more -/
def rowT (f : Nat → Int32) (tn key : Nat) (C : List Int32) : Nat → Int32 := fun i => if i = 7 then nI (tn + 1) else if i = 61 + 2 * tn then nI (1000 * key + C.length) else if i = 62 + 2 * tn then nI (puL C) else if 89 + 96 * tn ≤ i ∧ i < 89 + 96 * tn + C.length then C.getD (i - (89 + 96 * tn)) 0 else f i
theorem rowT_o {f : Nat → Int32} {tn key : Nat} {C : List Int32} {i : Nat} (h7 : i ≠ 7) (h1 : i ≠ 61 + 2 * tn) (h2 : i ≠ 62 + 2 * tn) (h3 : i < 89 + 96 * tn ∨ 89 + 96 * tn + C.length ≤ i) : rowT f tn key C i = f i := by
  unfold rowT
  rw [if_neg h7, if_neg h1, if_neg h2, if_neg (by omega)]
theorem rowT_R {T : Mem} {tn key : Nat} {C : List Int32} : aR (sR T 56 (rowT (T 56) tn key C)) = upd (aR T) 7 (nI (tn + 1)) := by
  funext i
  by_cases h7 : i = 7
  · subst h7
    rw [← aR_rd _ (by decide), sR_s, upd_s]
    exact if_pos rfl
  · rw [upd_n h7]
    unfold aR
    by_cases hi : i < 61
    · rw [if_pos hi, if_pos hi, sR_s, rowT_o h7 (by omega) (by omega) (by omega)]
    · rw [if_neg hi, if_neg hi]
theorem K.tx {S S' : Shp} {I J T : Mem} {tn bn key : Nat} {tx : Nat → Tx} {C : List Int32} (h : K S I T tn bn tx) (htn : tn < 14) (hg : gd key C) (hk : key ≤ 2) (hl : C.length < 96) (hM : MkQ S I C.length (puL C) key (some (.ref S.1)) S' J) (hs : ∀ k, k < C.length → I 25 k = enS (C.getD k 0)) (cap : S.1 + 3 ≤ 3000) : K (S'.1, S'.2.1, p2 S'.2.2 26 tn (some S.1)) (u2 J 1 13 (nI (tn + 1))) (sR T 56 (rowT (T 56) tn key C)) (tn + 1) bn (fun t => if t = tn then mkTx key C else tx t) := by
  obtain ⟨⟨a1, ⟨⟨a2, a2b, a2c⟩, a3⟩, a4, ⟨a5, a6⟩, a7, a8, a9, a10, a11⟩, c1, c2, ⟨c3, c4⟩, ⟨c5, c5b⟩, c6, c7, c8, c9, c10⟩ := h
  obtain ⟨-, m1, m2, m3, m4, m5⟩ := hM
  have hP := gd_KP hg hk (by omega)
  have h77 := c1.1
  have eU : ∀ x, x ≠ 56 → sR T 56 (rowT (T 56) tn key C) x = T x := fun x hx => sR_n hx
  have eB : aB (sR T 56 (rowT (T 56) tn key C)) = aB T := by unfold aB; rw [eU 57 (by decide)]
  have eJ : ∀ x, x < S.1 → x ≠ 1 → u2 J 1 13 (nI (tn + 1)) x = I x := fun x h1 h2 => by rw [u2_row h2]; exact (m2 x h1).2.2
  have eT : ∀ t, t < tn → (fun t => if t = tn then mkTx key C else tx t) t = tx t := fun t ht => if_neg (by omega)
  have eN : (fun t => if t = tn then mkTx key C else tx t) tn = mkTx key C := if_pos rfl
  have eP : ∀ i j, i < S.1 → i ≠ 26 → p2 S'.2.2 26 tn (some S.1) i j = S.2.2 i j := fun i j h1 h2 => by rw [p2_row h2, (m2 i h1).2.1]
  have tOld : ∀ {p len sz : Nat} {st : Nat → Int32}, TxOk S I p len sz st → TxOk (S'.1, S'.2.1, p2 S'.2.2 26 tn (some S.1)) (u2 J 1 13 (nI (tn + 1))) p len sz st := by
    intro p len sz st q
    have q1 := q.1
    have q3 := q.2.2.1
    exact q.sh (by show S.1 ≤ S'.1; omega) (fun i hi => (m2 i hi).1) (fun i j h1 _ h3 => eP i j h1 h3) (eJ (p + 1) (by omega) (by omega))
  refine ⟨⟨?_, ⟨⟨by omega, ?_, fun t ht => ?_⟩, fun t ht => ?_⟩, by omega, ⟨by rw [eU 55 (by decide)]; exact a5, fun z => ?_⟩, ?_, ?_, by rw [eU 55 (by decide)]; exact a9, by rw [eU 55 (by decide)]; exact a10, ?_⟩, ?_, ?_, ⟨?_, fun z => ?_⟩, ⟨by omega, fun t ht => ?_⟩, ?_, ?_, ?_, ?_, ?_⟩
  · rw [rowT_R]
    exact a1.up (fun n _ hw => hw.wo (by decide) (by decide) (by decide) (Or.inl (by decide))) (by decide) (fun b => by omega) (fun c _ z => by omega)
  · rw [sR_s]; exact if_pos rfl
  · rw [sR_s]
    by_cases q : t = tn
    · subst q
      rw [eN]
      refine ⟨?_, ?_, hk, by show C.length ≤ 96; omega, fun k hk' => ?_, hP.2.2.2.1⟩
      · unfold rowT
        rw [if_neg (by omega), if_pos rfl]
        rfl
      · unfold rowT
        rw [if_neg (by omega), if_neg (by omega), if_pos rfl]
        rfl
      · have hk' : k < C.length := hk'
        unfold rowT
        rw [if_neg (by omega), if_neg (by omega), if_neg (by omega), if_pos (by omega), show 89 + 96 * t + k - (89 + 96 * t) = k by omega]
        rfl
    · rw [eT t (by omega)]
      obtain ⟨b1, b2, b3, b4, b5, b6⟩ := a2c t (by omega)
      exact ⟨by rw [rowT_o (by omega) (by omega) (by omega) (by omega)]; exact b1, by rw [rowT_o (by omega) (by omega) (by omega) (by omega)]; exact b2, b3, b4, fun k hk' => by rw [rowT_o (by omega) (by omega) (by omega) (by omega)]; exact b5 k hk', b6⟩
  · by_cases q : t = tn
    · subst q
      rw [eN]; exact hP
    · rw [eT t (by omega)]; exact a3 t (by omega)
  · rw [eU 55 (by decide)] at z
    obtain ⟨z1, z2, z3, z4⟩ := a6 z
    refine ⟨by rw [eB]; exact z1, z2, ?_, fun t ht => ?_⟩
    · rw [sR_s, eU 57 (by decide)]
      rw [sR_s] at z3
      exact z3
    · rw [eT t (by omega)]
      have := z4 t ht
      rw [sR_s] at this
      rw [sR_s, eU 57 (by decide)]
      exact this
  · exact a7.mv (eU 68 (by decide)) (eU 69 (by decide)) (eU 70 (by decide))
  · exact a8.mv (eU 71 (by decide)) (eU 72 (by decide))
  · unfold KY
    rw [eU 61 (by decide), eU 62 (by decide)]
    exact a11
  · exact ⟨by show 77 ≤ S'.1; omega, by show S'.1 ≤ 3000; omega, fun i hi => ((m2 i (by omega)).1).trans (c1.2.2.1 i hi), fun i j h1 h2 h3 => (eP i j (by omega) h2).trans (c1.2.2.2 i j h1 h2 h3)⟩
  · rw [rowT_R, ← c2, ← aC_out (o := 1) (I := I) (J := J) (fun x h1 h2 => (m2 x (by omega)).2.2)]
    exact aC_sc (o := 1) (j := 7) (by decide) _
  · rw [eJ 0 (by omega) (by decide), eU 55 (by decide)]; exact c3
  · rw [eU 55 (by decide)] at z
    rw [eB, ← c4 z]
    exact aC_out (fun x h1 h2 => eJ x (by omega) (by omega))
  · by_cases q : t = tn
    · subst q
      refine ⟨S.1, ?_, ?_, ?_, ?_, ?_⟩
      · show p2 S'.2.2 26 t (some S.1) 26 t = _
        simp [p2]
      · rw [eN]
        obtain ⟨b1, b2, b3, b4, b5, b6, b7, b8, b9, b10⟩ := m3
        refine ⟨b1, b2, b3, b4, b5, b6, ?_, ?_, fun k hk' => ?_, b10⟩
        · show p2 S'.2.2 26 t (some S.1) S.1 2 = _
          rw [p2_row (by omega)]; exact b7
        · show p2 S'.2.2 26 t (some S.1) S.1 3 = _
          rw [p2_row (by omega)]; exact b8
        · have hk' : k < C.length := hk'
          rw [u2_a (by omega), b9 k hk', hs k hk']
          rfl
      · rw [eN, u2_a (by omega)]; exact m4
      · rw [eN, u2_a (by omega)]; exact m5
      · rw [eN]; exact hk
    · obtain ⟨p, p1, p2', p3, p4, p5⟩ := c5b t (by omega)
      have q1 := p2'.1
      have q3 := p2'.2.2.1
      refine ⟨p, ?_, ?_, ?_, ?_, ?_⟩
      · show p2 S'.2.2 26 tn (some S.1) 26 t = _
        unfold p2
        rw [if_neg (fun z => q z.2), (m2 26 (by omega)).2.1]
        exact p1
      · rw [eT t (by omega)]; exact tOld p2'
      · rw [eT t (by omega), eJ p (by omega) (by omega)]; exact p3
      · rw [eT t (by omega), eJ p (by omega) (by omega)]; exact p4
      · rw [eT t (by omega)]; exact p5
  · obtain ⟨al, q⟩ := c6
    refine ⟨al, ?_⟩
    have e27 : (S'.1, S'.2.1, p2 S'.2.2 26 tn (some S.1)).2.2 27 0 = S.2.2 27 0 := eP 27 0 (by omega) (by decide)
    rcases q with ⟨q1, q2⟩ | ⟨t, len, sz, st, q1, q2, q3, q4, q5⟩
    · exact Or.inl ⟨e27.trans q1, q2⟩
    · exact Or.inr ⟨t, len, sz, st, e27.trans q1, tOld q2, q3, q4, fun c g s h1 h2 h3 h4 => by rw [eJ 28 (by omega) (by decide)]; exact q5 c g s h1 h2 h3 h4⟩
  · exact c7.mv (fun x h1 h2 => eJ x (by omega) (by omega)) (eU 68 (by decide)) (eU 69 (by decide)) (eU 70 (by decide))
  · exact c8.mv (fun x h1 h2 => eJ x (by omega) (by omega)) (eU 71 (by decide)) (eU 72 (by decide)) (eU 73 (by decide)) (eU 74 (by decide))
  · exact c9.mv (by rw [eJ 0 (by omega) (by decide)]) (eJ 31 (by omega) (by decide)) (by rw [eU 55 (by decide)]) (eU 76 (by decide))
  · exact c10.mv (by rw [eJ 23 (by omega) (by decide)]) (eJ 24 (by omega) (by decide)) (by rw [eU 55 (by decide)]) (eU 60 (by decide))

