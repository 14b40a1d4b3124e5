theorem upd_upd (A : Nat → Int32) (i : Nat) (v y : Int32) : upd (upd A i v) i y = upd A i y := by funext j; unfold upd; split <;> rfl
theorem upd_s (A : Nat → Int32) (i : Nat) (v : Int32) : upd A i v i = v := by simp [upd]
theorem upd_n {A : Nat → Int32} {i j : Nat} {v : Int32} (h : j ≠ i) : upd A i v j = A j := by simp [upd, h]
theorem upd_id (A : Nat → Int32) (i : Nat) : upd A i (A i) = A := by funext j; unfold upd; split <;> simp_all
def dz (z : Int32) : Nat := z.toBitVec.toNat / 2 ^ 8
theorem i_ofN {x : Int32} {n : Nat} (h : x.toBitVec.toNat = n) (hn : n < 2 ^ 31) : x = nI n := by
  apply Int32.toInt_inj.mp
  rw [nI_toInt hn]
  show x.toBitVec.toInt = _
  rw [BitVec.toInt_eq_toNat_of_lt (by omega), h]
theorem dz_lt (z : Int32) : dz z < 2 ^ 24 := by
  unfold dz
  have : z.toBitVec.toNat < 2 ^ 32 := z.toBitVec.isLt
  omega
theorem zs_n (z : Int32) : zs z = nI (dz z) := by
  have h := dz_lt z
  exact i_ofN (n := dz z) (pk_ushr z 8 8 (by decide)) (by omega)
theorem rm_n (z : Int32) {k : Nat} (h0 : 0 < k) (hk : k < 2 ^ 31) : zs z - zs z / nI k * nI k = nI (dz z % k) := by
  have h := dz_lt z
  rw [zs_n]
  exact pk_rem (by omega) h0 hk
def aPayS (b : Nat) (A : Nat → Int32) : Nat → Int32 := if A (17 + 5 * b) = 8 then A else upd (upd A (19 + 5 * b) (A (19 + 5 * b) - A (8 + (A (17 + 5 * b)).toNatClampNeg))) 6 (A 6 + A (8 + (A (17 + 5 * b)).toNatClampNeg))
def aPay : Nat → Nat → (Nat → Int32) → (Nat → Int32)
  | 0, _, A => A
  | k + 1, b, A => aPay k (b + 1) (aPayS b A)
theorem aPayS_wa {b n : Nat} {A : Nat → Int32} (h : WA A n) : WA (aPayS b A) n := by
  unfold aPayS
  split
  · exact h
  · exact (h.up _ (by omega) (by omega) (by omega) (fun b k _ _ => by omega)).up _ (by omega) (by omega) (by omega) (fun b k _ _ => by omega)
theorem aPay_wa {n : Nat} : ∀ (k b : Nat) (A : Nat → Int32), WA A n → WA (aPay k b A) n
  | 0, _, _, h => h
  | k + 1, b, _, h => aPay_wa k (b + 1) _ (aPayS_wa h)
theorem pr7 {c : Nat} (h8 : c ≤ 8) (h : ¬ wi (nI c) 0 7 = 0) : c < 8 := by
  have key : ∀ c, c ≤ 8 → ¬ wi (nI c) 0 7 = 0 → c < 8 := by decide +kernel
  exact key c h8 h
theorem pr8 {c : Nat} (h8 : c ≤ 8) (h : wi (nI c) 0 7 = 0) : nI c = 8 := by
  have key : ∀ c, c ≤ 8 → wi (nI c) 0 7 = 0 → nI c = 8 := by decide +kernel
  exact key c h8 h
theorem lp_X5_payRents {G : GX} {S : Shp} {I0 : Mem} {d o n : Nat} {al : Int32 → Int32 → Int32 → Int32} {Q : Option Value → Shp → Mem → Prop} (hsh : SHP S) (ho : StO o) (hn : n ≤ 9) (hd : 2 ≤ d) : ∀ (k b : Nat) (I : Mem), b + k = n → AlOk S I al → WA (aC o I) n → Pst o S I0 al (aC o I) I → (∀ J, Pst o S I0 al (aPay k b (aC o I)) J → Q none S J) → PW G RX5 "payRents" cX5_payRents 2 none d 0 0 Q 2 [some (.ref o), some (.int (nI b))] [] S I := by
  have hso := ho.le
  intro k
  induction k with
  | zero =>
    intro b I hb hal hw hp hQ
    have e1 : I o 6 = nI n := hw.1
    refine P_iload1 (pc' := 3) dX5_payRents_2 rfl ?_
    refine P_aload0 (pc' := 4) dX5_payRents_3 rfl ?_
    refine P_geti (pc' := 7) dX5_payRents_4 rfl fl_X5_30 rfl (so_l0 hsh ho) (so_t0 hsh ho) ?_
    refine P_icmp_ge (tgt := 68) (pc' := 10) dX5_payRents_7 rfl rfl (fun h7 => ?_) (fun h7 => ?_)
    · refine P_vret dX5_payRents_68 ?_
      exact hQ I hp
    · exact absurd (by rw [e1]; exact nI_le (by omega) (by omega)) h7
  | succ k ih =>
    intro b I hb hal hw hp hQ
    have e1 : I o 6 = nI n := hw.1
    have b9 : b < 9 := by omega
    obtain ⟨-, ⟨c, c8, hc⟩, -⟩ := hw.2.2.2.2 b b9
    have hc3 : I (o + 3) b = nI c := by rw [aC_rc I b9, hc]
    have eb : nI b + 1 = nI (b + 1) := nI_1 b
    have go : ∀ J : Mem, Pst o S I0 al (aPayS b (aC o I)) J → PW G RX5 "payRents" cX5_payRents 2 none d 0 0 Q 2 [some (.ref o), some (.int (nI (b + 1)))] [] S J := by
      intro J hJ
      refine ih (b + 1) J (by omega) hJ.2.1 (by rw [hJ.1]; exact aPayS_wa hw) (by rw [hJ.1]; exact hJ) (fun K hK => hQ K ?_)
      rw [hJ.1] at hK
      exact hK
    refine P_iload1 (pc' := 3) dX5_payRents_2 rfl ?_
    refine P_aload0 (pc' := 4) dX5_payRents_3 rfl ?_
    refine P_geti (pc' := 7) dX5_payRents_4 rfl fl_X5_30 rfl (so_l0 hsh ho) (so_t0 hsh ho) ?_
    refine P_icmp_ge (tgt := 68) (pc' := 10) dX5_payRents_7 rfl rfl (fun h7 => ?_) (fun h7 => ?_)
    · exact absurd h7 (by rw [e1]; exact nI_ge (by omega) (by omega))
    · refine P_aload0 (pc' := 11) dX5_payRents_10 rfl ?_
      refine P_getr (pc' := 14) dX5_payRents_11 rfl fl_X5_18 rfl (so_l0 hsh ho) (so_t0 hsh ho) (so_p2 hsh ho) ?_
      refine P_iload1 (pc' := 15) dX5_payRents_14 rfl ?_
      refine P_iald (pc' := 16) dX5_payRents_15 rfl (so_l3 hsh ho) (so_t3 hsh ho) (j := b) rfl b9 (by decide) ?_
      refine P_as (y := nI c) hc3 ?_
      refine P_callSN1 (pc' := 19) dX5_payRents_16 rfl lk_X5_96 (c_X8_isCorner (d := 1) _ (by omega)) (by omega) (Nat.le_of_ble_eq_true rfl) (fun r S' I' hq => ?_)
      obtain ⟨rfl, rfl, rfl⟩ := hq
      refine P_if_eq (tgt := 62) (pc' := 22) dX5_payRents_19 rfl rfl (fun h19 => ?_) (fun h19 => ?_)
      · refine P_iinc1 (pc' := 65) dX5_payRents_62 rfl eb (by decide) rfl ?_
        refine P_goto (tgt := 2) dX5_payRents_65 rfl ?_
        first
          | exact go I (by
              have q : aPayS b (aC o I) = aC o I := by
                unfold aPayS
                rw [if_pos (by rw [hc]; exact pr8 c8 h19)]
              rw [q]
              exact hp)
          | exact go _ (by
              have c7 := pr7 c8 h19
              have q : aPayS b (aC o I) = upd (upd (aC o I) (19 + 5 * b) (I (o + 5) b - I (o + 1) c)) 6 (u2 I (o + 5) b (I (o + 5) b - I (o + 1) c) o 10 + u2 I (o + 5) b (I (o + 5) b - I (o + 1) c) (o + 1) c) := by
                unfold aPayS
                rw [if_neg (by rw [hc]; intro z; have := (nI_eq (a := c) (b := 8) (by omega) (by decide)).mp z; omega), hc, nI_clamp (by omega), u2_row (show o ≠ o + 5 by omega), u2_row (show o + 1 ≠ o + 5 by omega), aC_rp I b9, aC_rr I c7]
                rfl
              have p1 := Pst.put (S := S) ho hal (x := o + 5) (k := b) (v := I (o + 5) b - I (o + 1) c) (by omega) (by omega) (aC_wp b9 _)
              have p2 := Pst.put (S := S) ho p1.2.1 (x := o) (k := 10) (v := u2 I (o + 5) b (I (o + 5) b - I (o + 1) c) o 10 + u2 I (o + 5) b (I (o + 5) b - I (o + 1) c) (o + 1) c) (by omega) (by omega) (aC_sc (j := 6) (by decide) _)
              rw [aC_wp b9] at p2
              rw [q]
              exact (hp.tr p1).tr p2)
      · refine P_aload0 (pc' := 23) dX5_payRents_22 rfl ?_
        refine P_getr (pc' := 26) dX5_payRents_23 rfl fl_X5_24 rfl (so_l0 hsh ho) (so_t0 hsh ho) (so_p4 hsh ho) ?_
        refine P_iload1 (pc' := 27) dX5_payRents_26 rfl ?_
        refine P_dup2 (pc' := 28) dX5_payRents_27 rfl rfl rfl ?_
        refine P_iald (pc' := 29) dX5_payRents_28 rfl (so_l5 hsh ho) (so_t5 hsh ho) (j := b) rfl b9 (by decide) ?_
        refine P_aload0 (pc' := 30) dX5_payRents_29 rfl ?_
        refine P_getr (pc' := 33) dX5_payRents_30 rfl fl_X5_9 rfl (so_l0 hsh ho) (so_t0 hsh ho) (so_p0 hsh ho) ?_
        refine P_aload0 (pc' := 34) dX5_payRents_33 rfl ?_
        refine P_getr (pc' := 37) dX5_payRents_34 rfl fl_X5_18 rfl (so_l0 hsh ho) (so_t0 hsh ho) (so_p2 hsh ho) ?_
        refine P_iload1 (pc' := 38) dX5_payRents_37 rfl ?_
        refine P_iald (pc' := 39) dX5_payRents_38 rfl (so_l3 hsh ho) (so_t3 hsh ho) (j := b) rfl b9 (by decide) ?_
        refine P_as (y := nI c) hc3 ?_
        refine P_iald (pc' := 40) dX5_payRents_39 rfl (so_l1 hsh ho) (so_t1 hsh ho) (j := c) rfl (pr7 c8 h19) (by decide) ?_
        refine P_isub (pc' := 41) dX5_payRents_40 rfl ?_
        refine P_iast (pc' := 42) dX5_payRents_41 rfl (so_l5 hsh ho) (so_t5 hsh ho) (j := b) rfl b9 (by decide) ?_
        refine P_aload0 (pc' := 43) dX5_payRents_42 rfl ?_
        refine P_dup (pc' := 44) dX5_payRents_43 rfl rfl ?_
        refine P_geti (pc' := 47) dX5_payRents_44 rfl fl_X5_44 rfl (so_l0 hsh ho) (so_t0 hsh ho) ?_
        refine P_aload0 (pc' := 48) dX5_payRents_47 rfl ?_
        refine P_getr (pc' := 51) dX5_payRents_48 rfl fl_X5_9 rfl (so_l0 hsh ho) (so_t0 hsh ho) (so_p0 hsh ho) ?_
        refine P_aload0 (pc' := 52) dX5_payRents_51 rfl ?_
        refine P_getr (pc' := 55) dX5_payRents_52 rfl fl_X5_18 rfl (so_l0 hsh ho) (so_t0 hsh ho) (so_p2 hsh ho) ?_
        refine P_iload1 (pc' := 56) dX5_payRents_55 rfl ?_
        refine P_iald (pc' := 57) dX5_payRents_56 rfl (so_l3 hsh ho) (so_t3 hsh ho) (j := b) rfl b9 (by decide) ?_
        refine P_as (y := nI c) (by rw [u2_row (by omega)]; exact hc3) ?_
        refine P_iald (pc' := 58) dX5_payRents_57 rfl (so_l1 hsh ho) (so_t1 hsh ho) (j := c) rfl (pr7 c8 h19) (by decide) ?_
        refine P_iadd (pc' := 59) dX5_payRents_58 rfl ?_
        refine P_puti (pc' := 62) dX5_payRents_59 rfl fl_X5_44 rfl (so_l0 hsh ho) (so_t0 hsh ho) ?_
        refine P_iinc1 (pc' := 65) dX5_payRents_62 rfl eb (by decide) rfl ?_
        refine P_goto (tgt := 2) dX5_payRents_65 rfl ?_
        first
          | exact go I (by
              have q : aPayS b (aC o I) = aC o I := by
                unfold aPayS
                rw [if_pos (by rw [hc]; exact pr8 c8 h19)]
              rw [q]
              exact hp)
          | exact go _ (by
              have c7 := pr7 c8 h19
              have q : aPayS b (aC o I) = upd (upd (aC o I) (19 + 5 * b) (I (o + 5) b - I (o + 1) c)) 6 (u2 I (o + 5) b (I (o + 5) b - I (o + 1) c) o 10 + u2 I (o + 5) b (I (o + 5) b - I (o + 1) c) (o + 1) c) := by
                unfold aPayS
                rw [if_neg (by rw [hc]; intro z; have := (nI_eq (a := c) (b := 8) (by omega) (by decide)).mp z; omega), hc, nI_clamp (by omega), u2_row (show o ≠ o + 5 by omega), u2_row (show o + 1 ≠ o + 5 by omega), aC_rp I b9, aC_rr I c7]
                rfl
              have p1 := Pst.put (S := S) ho hal (x := o + 5) (k := b) (v := I (o + 5) b - I (o + 1) c) (by omega) (by omega) (aC_wp b9 _)
              have p2 := Pst.put (S := S) ho p1.2.1 (x := o) (k := 10) (v := u2 I (o + 5) b (I (o + 5) b - I (o + 1) c) o 10 + u2 I (o + 5) b (I (o + 5) b - I (o + 1) c) (o + 1) c) (by omega) (by omega) (aC_sc (j := 6) (by decide) _)
              rw [aC_wp b9] at p2
              rw [q]
              exact (hp.tr p1).tr p2)
theorem c_X5_payRents {G : GX} {S : Shp} {I : Mem} {d o n : Nat} {al : Int32 → Int32 → Int32 → Int32} (hsh : SHP S) (ho : StO o) (hal : AlOk S I al) (hw : WA (aC o I) n) (hd : 2 ≤ d) : PM G yX5_payRents cX5_payRents 2 none d 0 0 [.ref o] S I (fun r S' I' => r = none ∧ S = S' ∧ Pst o S I al (aPay n 0 (aC o I)) I') := by
  refine PM.of (ls := [some (.ref o), none]) (by decide) rfl (Nat.le_of_ble_eq_true rfl) rfl ?_
  show PW G RX5 "payRents" _ _ _ _ _ _ _ _ _ _ _ _
  refine P_iconst (pc' := 1) dX5_payRents_0 rfl (v := 0) rfl ?_
  refine P_istore1 (pc' := 2) dX5_payRents_1 rfl (by decide) rfl ?_
  exact lp_X5_payRents (I0 := I) hsh ho hw.2.1 hd n 0 I (by omega) hal hw (Pst.self hal) (fun J hJ => ⟨rfl, rfl, hJ⟩)
def aPass (al : Int32 → Int32 → Int32 → Int32) (n : Nat) (A : Nat → Int32) : Nat → Int32 :=
  aWalk al (dz (zn (A 0)) % 8) (dz (zn (zn (A 0))) % 8) (1 + dz (zn (zn (zn (A 0)))) % 9) (nI (dz (zn (zn (zn (zn (A 0))))) % 10)) n (upd A 0 (zn (zn (zn (zn (A 0))))))
def it (F : (Nat → Int32) → (Nat → Int32)) : Nat → (Nat → Int32) → (Nat → Int32)
  | 0, A => A
  | k + 1, A => it F k (F A)
theorem it_s (F : (Nat → Int32) → (Nat → Int32)) (k : Nat) (A : Nat → Int32) : it F (k + 1) A = it F k (F A) := rfl
theorem it_wa {F : (Nat → Int32) → (Nat → Int32)} {n : Nat} (hF : ∀ A, WA A n → WA (F A) n) : ∀ (k : Nat) (A : Nat → Int32), WA A n → WA (it F k A) n := by
  intro k
  induction k with
  | zero => intro A h; exact h
  | succ k ih => intro A h; rw [it_s]; exact ih _ (hF _ h)
def aPsN (al : Int32 → Int32 → Int32 → Int32) (n k : Nat) (A : Nat → Int32) : Nat → Int32 := it (aPass al n) k A
def aFun (al : Int32 → Int32 → Int32 → Int32) (n : Nat) (A : Nat → Int32) : Nat → Int32 := if A 5 = 8 then A else aWalk al (A 5).toNatClampNeg (A 5).toNatClampNeg 9 9 n A
def aWet (A : Nat → Int32) : Nat → Int32 := if nI (dz (A 0) % 100) < A 3 then upd A 4 (if A 4 = 0 then 1 else 0) else A
def aEnd (A : Nat → Int32) : Nat → Int32 := upd A 2 (A 2 + 1)
def aPs (al : Int32 → Int32 → Int32 → Int32) (n : Nat) (B : Nat → Int32) : Nat → Int32 := aPsN al n (if B 4 = 0 then 3 else 2) B
theorem aPsN_s (al : Int32 → Int32 → Int32 → Int32) (n k : Nat) (A : Nat → Int32) : aPsN al n (k + 1) A = aPsN al n k (aPass al n A) := it_s _ _ _
def aHour (al : Int32 → Int32 → Int32 → Int32) (n : Nat) (A : Nat → Int32) : Nat → Int32 :=
  aEnd (aFun al n (aPs al n (aPay n 0 (aWet (upd A 0 (zn (A 0)))))))
theorem WA.z {A : Nat → Int32} {n : Nat} (h : WA A n) (v : Int32) : WA (upd A 0 v) n := h.up v (by omega) (by omega) (by omega) (fun b k _ _ => by omega)
theorem aPass_wa {al : Int32 → Int32 → Int32 → Int32} {n' n : Nat} {A : Nat → Int32} (h : WA A n) : WA (aPass al n' A) n := aWalk_wa (h.z _)
theorem aPsN_wa {al : Int32 → Int32 → Int32 → Int32} {n' n k : Nat} {A : Nat → Int32} (h : WA A n) : WA (aPsN al n' k A) n := it_wa (fun _ => aPass_wa) k A h
theorem aFun_wa {al : Int32 → Int32 → Int32 → Int32} {n' n : Nat} {A : Nat → Int32} (h : WA A n) : WA (aFun al n' A) n := by
  unfold aFun
  split
  · exact h
  · exact aWalk_wa h
theorem aWet_wa {n : Nat} {A : Nat → Int32} (h : WA A n) : WA (aWet A) n := by
  unfold aWet
  split
  · obtain ⟨a1, a2, a3, a4, a5⟩ := h
    refine ⟨by rw [upd_n (by decide)]; exact a1, a2, ?_, by rw [upd_n (by decide)]; exact a4, fun b hb => ?_⟩
    · rw [upd_s]; split
      · exact Or.inr rfl
      · exact Or.inl rfl
    · rw [upd_n (by omega), upd_n (by omega), upd_n (by omega)]
      exact a5 b hb
  · exact h
theorem aEnd_wa {n : Nat} {A : Nat → Int32} (h : WA A n) : WA (aEnd A) n := h.up _ (by omega) (by omega) (by omega) (fun b k _ _ => by omega)
theorem aHour_wa {al : Int32 → Int32 → Int32 → Int32} {n' n : Nat} {A : Nat → Int32} (h : WA A n) : WA (aHour al n' A) n := aEnd_wa (aFun_wa (aPsN_wa (aPay_wa _ _ _ (aWet_wa (h.z _)))))
/-- from the funeral on -/
theorem k_X5_passHour {G : GX} {S : Shp} {I0 I : Mem} {d o n : Nat} {al : Int32 → Int32 → Int32 → Int32} {B : Nat → Int32} {x2 x3 x4 x5 x6 x7 : Option Value} (hsh : SHP S) (ho : StO o) (hd : 5 ≤ d) (hal : AlOk S I al) (hw : WA (aC o I) n) (hp : Pst o S I0 al (aC o I) I) (hB : aEnd (aFun al n (aC o I)) = B) : PW G RX5 "passHour" cX5_passHour 8 none d 0 0 (fun r S' I' => r = none ∧ S = S' ∧ Pst o S I0 al B I') 111 [some (.ref o), some (.ref 27), x2, x3, x4, x5, x6, x7] [] S I := by
  have hso := ho.le
  obtain ⟨f, f8, hf⟩ := hw.2.2.2.1
  have hf9 : I o 9 = nI f := hf
  have fin : ∀ J, Pst o S I0 al (aFun al n (aC o I)) J → PW G RX5 "passHour" cX5_passHour 8 none d 0 0 (fun r S' I' => r = none ∧ S = S' ∧ Pst o S I0 al B I') 137 [some (.ref o), some (.ref 27), x2, x3, x4, x5, x6, x7] [] S J := by
    intro J hJ
    refine P_aload0 (pc' := 138) dX5_passHour_137 rfl ?_
    refine P_dup (pc' := 139) dX5_passHour_138 rfl rfl ?_
    refine P_geti (pc' := 142) dX5_passHour_139 rfl fl_X5_47 rfl (so_l0 hsh ho) (so_t0 hsh ho) ?_
    refine P_iconst (pc' := 143) dX5_passHour_142 rfl (v := 1) rfl ?_
    refine P_iadd (pc' := 144) dX5_passHour_143 rfl ?_
    refine P_puti (pc' := 147) dX5_passHour_144 rfl fl_X5_47 rfl (so_l0 hsh ho) (so_t0 hsh ho) ?_
    refine P_vret dX5_passHour_147 ?_
    have p1 := Pst.put (S := S) ho hJ.2.1 (x := o) (k := 11) (v := J o 11 + 1) (by omega) (by omega) (aC_sc (j := 2) (by decide) _)
    refine ⟨rfl, rfl, ?_⟩
    rw [← hB, ← hJ.1]
    exact hJ.tr p1
  refine P_aload0 (pc' := 112) dX5_passHour_111 rfl ?_
  refine P_geti (pc' := 115) dX5_passHour_112 rfl fl_X5_41 rfl (so_l0 hsh ho) (so_t0 hsh ho) ?_
  refine P_bipush (pc' := 117) dX5_passHour_115 rfl (v := 8) rfl ?_
  refine P_icmp_eq (tgt := 137) (pc' := 120) dX5_passHour_117 rfl rfl (fun h117 => ?_) (fun h117 => ?_)
  · refine fin I ?_
    have q : aFun al n (aC o I) = aC o I := if_pos (show aC o I 5 = 8 from h117)
    rw [q]
    exact hp
  · have hf7 : f ≤ 7 := by
      rcases Nat.lt_or_ge f 8 with z | z
      · omega
      · exact absurd (by rw [hf9, show f = 8 by omega]; rfl) h117
    refine P_aload0 (pc' := 121) dX5_passHour_120 rfl ?_
    refine P_aload0 (pc' := 122) dX5_passHour_121 rfl ?_
    refine P_geti (pc' := 125) dX5_passHour_122 rfl fl_X5_41 rfl (so_l0 hsh ho) (so_t0 hsh ho) ?_
    refine P_as (y := nI f) hf9 ?_
    refine P_aload0 (pc' := 126) dX5_passHour_125 rfl ?_
    refine P_geti (pc' := 129) dX5_passHour_126 rfl fl_X5_41 rfl (so_l0 hsh ho) (so_t0 hsh ho) ?_
    refine P_as (y := nI f) hf9 ?_
    refine P_bipush (pc' := 131) dX5_passHour_129 rfl (v := nI 9) rfl ?_
    refine P_bipush (pc' := 133) dX5_passHour_131 rfl (v := 9) rfl ?_
    refine P_aload1 (pc' := 134) dX5_passHour_133 rfl ?_
    refine P_callV5 (pc' := 137) dX5_passHour_134 rfl lk_X5_92 (so_l0 hsh ho) (so_t0 hsh ho) (c_X5_walk (d := 4) hsh ho hal hw hf7 hf7 (by decide) (by decide) (by omega)) (by omega) (Nat.le_of_ble_eq_true rfl) (fun r S' I' hq => ?_)
    obtain ⟨rfl, rfl, hp2⟩ := hq
    refine fin I' ?_
    have q : aFun al n (aC o I) = aWalk al f f 9 9 n (aC o I) := by
      unfold aFun
      rw [if_neg (show ¬ aC o I 5 = 8 from h117), hf, nI_clamp (by omega)]
    rw [q]
    exact hp.tr hp2

