/-! The reference's passage. -/
def labz (b : Int → Int) : Bool := decide (b 4 = 1)
def drk (K : Int → Int) (a it : Int) (bk : Bool) : Int := if bk = true ∧ it < 3 then blz K a it else 0
def scz (K : Int → Int) (a b it : Int) : Bool := decide (it = 3) && owz (bp K a) (bp K b)
def ndz (K : Int → Int) (a b it : Int) (bk : Bool) : Bool := scz K a b it || decide (drk K a it bk ≠ drk K b it bk)
def adj (K : Int → Int) (a b it : Int) (bk : Bool) : List Pz := if ndz K a b it bk then blp (bp K a) a ++ [(if scz K a b it then 7 else 8, a, if scz K a b it then b else drk K a it bk, drk K b it bk)] else []
def cnv (u : Bool) (B : Int → Int) (b : Int) : List Pz := if u = labz B then [] else [(if u then 6 else 5, b, 0, 0)]
def psz (K : Int → Int) (a b it : Int) (bk : Bool) : List Pz := fth (bp K a) a it ++ (adj K a b it bk ++ (cnv (!ndz K a b it bk && labz (bp K a)) (bp K b) b ++ bck (bp K b) b it))
theorem cnv_len (u : Bool) (B : Int → Int) (b : Int) : (cnv u B b).length ≤ 1 := by
  unfold cnv
  split <;> simp
theorem blp_len (b : Int → Int) (p : Int) : (blp b p).length ≤ 1 := by
  unfold blp
  split <;> simp
theorem psz_len (K : Int → Int) (a b it : Int) (bk : Bool) : (psz K a b it bk).length ≤ 7 := by
  have h1 := fth_len (bp K a) a it
  have h2 := bck_len (bp K b) b it
  have h3 := cnv_len (!ndz K a b it bk && labz (bp K a)) (bp K b) b
  have h4 := blp_len (bp K a) a
  unfold psz adj
  split
  · simp only [List.length_append, List.length_cons, List.length_nil]
    omega
  · simp only [List.length_append, List.length_nil]
    omega
theorem bI_eq {x y : Bool} : iz (bI x) = iz (bI y) ↔ x = y := by cases x <;> cases y <;> decide
section PAS
variable {μ : mM} {M : Nat} {A : Nat → Nat → Int32} {S : Nat → Int32} {L : Nat → Int64} {v : Int → Int} {l : List Pz}
theorem km_lab' {K : Int → Int} (h : KR μ M K) {p : Int} (hp : 0 ≤ p) (hp6 : p < 6) : f_Mo_lab μ M (iz p) = some (iz (bI (labz (bp K p)))) := by
  rw [km_lab h hp hp6]
  unfold labz bI
  by_cases e : bp K p 4 = 1
  · rw [if_pos e, decide_eq_true e, if_pos rfl]
  · rw [if_neg e, decide_eq_false e, if_neg (by decide)]
theorem rf_p152 (h : RF μ M A S L v l) (hk : KA A) (hl : l.length ≤ 36) {b it : Int} (hb : 0 ≤ b ∧ b < 6) (hB : WB (bp (kp A) b)) (hi : 0 ≤ it ∧ it ≤ 3) (ho : bok (bp (kp A) b) it) (u : Bool) : ∃ μ', f_Mo_passage_152 M μ (iz b) (iz it) (iz (bI u)) = some μ' ∧ RF μ' M A S L v (l ++ (cnv u (bp (kp A) b) b ++ bck (bp (kp A) b) b it)) ∧ Out M μ μ' := by
  unfold f_Mo_passage_152 f_Mo_passage_174 f_Mo_passage_180 cnv
  rw [rf_rc h, Option.bind_some, km_lab' (rf_KR h hk) hb.1 hb.2, Option.bind_some]
  by_cases e : u = labz (bp (kp A) b)
  · obtain ⟨m1, s1, k1, o1⟩ := rf_back h hk (by omega) hb.1 hb.2 hB hi ho
    refine ⟨m1, ?_, ?_, o1⟩
    · rw [if_pos (bI_eq.mpr e), Option.bind_some, s1, Option.bind_some]
    · rw [if_pos e, List.nil_append]
      exact k1
  · rw [if_neg (fun q => e (bI_eq.mp q)), if_neg e]
    have fin : ∀ kd : Int, ∃ μ', ((f_Mo_put M μ (iz kd) (iz b) 0 0).bind fun q9 => ((mrc q9 (some M) 11).bind fun a => f_Mo_backwards a q9 (iz b) (iz it)).bind fun q10 => some q10) = some μ' ∧ RF μ' M A S L v (l ++ ([(kd, b, 0, 0)] ++ bck (bp (kp A) b) b it)) ∧ Out M μ μ' := by
      intro kd
      obtain ⟨m1, s1, k1, o1⟩ := rf_put h (by omega) kd b 0 0
      obtain ⟨m2, s2, k2, o2⟩ := rf_back k1 hk (by rw [List.length_append]; simp; omega) hb.1 hb.2 hB hi ho
      refine ⟨m2, ?_, ?_, o1.tr o2⟩
      · rw [zi_0, s1, Option.bind_some, rf_rc k1, Option.bind_some, s2, Option.bind_some]
      · rw [← List.append_assoc]
        exact k2
    rw [Option.bind_some]
    cases u with
    | false =>
      rw [if_pos (by decide), if_neg (by decide), zi_5]
      exact fin 5
    | true =>
      rw [if_neg (by decide), if_pos rfl, zi_6]
      exact fin 6
theorem rf_p117 (h : RF μ M A S L v l) (hk : KA A) (hl : l.length ≤ 35) {a b it : Int} (hb : 0 ≤ b ∧ b < 6) (hB : WB (bp (kp A) b)) (hi : 0 ≤ it ∧ it ≤ 3) (ho : bok (bp (kp A) b) it) (sc : Bool) (x y : Int) : ∃ μ', f_Mo_passage_117 M μ (iz a) (iz b) (iz it) (jz x) (jz y) (iz (bI sc)) = some μ' ∧ RF μ' M A S L v (l ++ ([(if sc then 7 else 8, a, if sc then b else x, y)] ++ (cnv false (bp (kp A) b) b ++ bck (bp (kp A) b) b it))) ∧ Out M μ μ' := by
  have fin : ∀ kd x' : Int, ∃ μ', ((mrc μ (some M) 11).bind fun a' => f_Mo_put a' μ (iz kd) (iz a) (iz x') ((jz y).toInt32)).bind (fun q7 => f_Mo_passage_152 M q7 (iz b) (iz it) 0) = some μ' ∧ RF μ' M A S L v (l ++ ([(kd, a, x', y)] ++ (cnv false (bp (kp A) b) b ++ bck (bp (kp A) b) b it))) ∧ Out M μ μ' := by
    intro kd x'
    obtain ⟨m1, s1, k1, o1⟩ := rf_put h (by omega) kd a x' y
    obtain ⟨m2, s2, k2, o2⟩ := rf_p152 k1 hk (by rw [List.length_append]; simp; omega) hb hB hi ho false
    refine ⟨m2, ?_, ?_, o1.tr o2⟩
    · rw [rf_rc h, Option.bind_some, jz_i, s1, Option.bind_some]
      exact s2
    · rw [← List.append_assoc]
      exact k2
  unfold f_Mo_passage_117 f_Mo_passage_133 f_Mo_passage_146
  cases sc with
  | false =>
    rw [if_pos (by decide), if_pos (by decide), if_neg (by decide), if_neg (by decide), zi_8, jz_i]
    exact fin 8 x
  | true =>
    rw [if_neg (by decide), if_neg (by decide), if_pos rfl, if_pos rfl, zi_7]
    exact fin 7 b
theorem rf_p83 (h : RF μ M A S L v l) (hk : KA A) (hl : l.length ≤ 32) {a b it : Int} (ha : 0 ≤ a ∧ a < 6) (hA : WB (bp (kp A) a)) (hb : 0 ≤ b ∧ b < 6) (hB : WB (bp (kp A) b)) (hi : 0 ≤ it ∧ it ≤ 3) (ho : bok (bp (kp A) b) it) (sc nd' : Bool) (x y : Int) : ∃ μ', f_Mo_passage_83 M μ (iz a) (iz b) (iz it) (jz x) (jz y) (iz (bI sc)) (iz (bI nd')) = some μ' ∧ RF μ' M A S L v (l ++ (fth (bp (kp A) a) a it ++ ((if nd' then blp (bp (kp A) a) a ++ [(if sc then 7 else 8, a, if sc then b else x, y)] else []) ++ (cnv (!nd' && labz (bp (kp A) a)) (bp (kp A) b) b ++ bck (bp (kp A) b) b it)))) ∧ Out M μ μ' := by
  have fl := fth_len (bp (kp A) a) a it
  obtain ⟨m1, s1, k1, o1⟩ := rf_forth h hk (by omega) ha.1 ha.2 hA hi
  unfold f_Mo_passage_83
  rw [rf_rc h, Option.bind_some, s1, Option.bind_some, rf_rc k1, Option.bind_some, km_lab' (rf_KR k1 hk) ha.1 ha.2, Option.bind_some]
  cases nd' with
  | false =>
    obtain ⟨m2, s2, k2, o2⟩ := rf_p152 k1 hk (by rw [List.length_append]; omega) hb hB hi ho (labz (bp (kp A) a))
    refine ⟨m2, ?_, ?_, o1.tr o2⟩
    · rw [if_pos (by decide)]
      exact s2
    · rw [List.append_assoc] at k2
      exact k2
  | true =>
    rw [if_neg (by decide)]
    cases hlb : labz (bp (kp A) a) with
    | false =>
      obtain ⟨m2, s2, k2, o2⟩ := rf_p117 k1 hk (by rw [List.length_append]; omega) (a := a) hb hB hi ho sc x y
      refine ⟨m2, ?_, ?_, o1.tr o2⟩
      · rw [if_pos (by decide)]
        exact s2
      · have e : blp (bp (kp A) a) a = [] := if_neg (of_decide_eq_false hlb)
        rw [List.append_assoc] at k2
        rw [if_pos rfl, e, List.nil_append]
        exact k2
    | true =>
      obtain ⟨m2, s2, k2, o2⟩ := rf_put k1 (by rw [List.length_append]; omega) 6 a 0 0
      obtain ⟨m3, s3, k3, o3⟩ := rf_p117 k2 hk (by simp only [List.length_append, List.length_cons, List.length_nil]; omega) (a := a) hb hB hi ho sc x y
      refine ⟨m3, ?_, ?_, (o1.tr o2).tr o3⟩
      · rw [if_neg (by decide), Option.bind_some, zi_6, zi_0, s2, Option.bind_some]
        exact s3
      · have e : blp (bp (kp A) a) a = [(6, a, 0, 0)] := if_pos (of_decide_eq_true hlb)
        rw [List.append_assoc, List.append_assoc] at k3
        rw [if_pos rfl, e, List.append_assoc]
        exact k3
theorem rf_p42 (h : RF μ M A S L v l) (hk : KA A) (hl : l.length ≤ 32) {a b it : Int} (ha : 0 ≤ a ∧ a < 6) (hA : WB (bp (kp A) a)) (hb : 0 ≤ b ∧ b < 6) (hB : WB (bp (kp A) b)) (hi : 0 ≤ it ∧ it ≤ 3) (ho : bok (bp (kp A) b) it) (bk : Bool) : ∃ μ', f_Mo_passage_42 M μ (iz a) (iz b) (iz it) (jz (drk (kp A) a it bk)) (jz (drk (kp A) b it bk)) = some μ' ∧ RF μ' M A S L v (l ++ psz (kp A) a b it bk) ∧ Out M μ μ' := by
  have drR : ∀ p : Int, 0 ≤ p ∧ p < 6 → WB (bp (kp A) p) → jR (drk (kp A) p it bk) := by
    intro p hp hP
    have := blz_R (it := it) hp hP hi
    unfold drk
    split
    · exact jR_s (by have := this.1; omega) (by have := this.2; omega)
    · exact jR_s (by omega) (by omega)
  have h83 := fun sc nd' => rf_p83 h hk hl ha hA hb hB hi ho sc nd' (drk (kp A) a it bk) (drk (kp A) b it bk)
  have h63 : ∃ μ', f_Mo_passage_63 M μ (iz a) (iz b) (iz it) (jz (drk (kp A) a it bk)) (jz (drk (kp A) b it bk)) (iz (bI (scz (kp A) a b it))) = some μ' ∧ RF μ' M A S L v (l ++ psz (kp A) a b it bk) ∧ Out M μ μ' := by
    unfold f_Mo_passage_63 f_Mo_passage_78 psz adj ndz
    cases hs : scz (kp A) a b it with
    | true =>
      rw [if_neg (by decide)]
      exact h83 true true
    | false =>
      rw [if_pos (by decide)]
      by_cases e : drk (kp A) a it bk = drk (kp A) b it bk
      · rw [if_pos (congrArg jz e), decide_eq_false (fun q => q e)]
        exact h83 false false
      · rw [if_neg (fun q => e ((jz_eq (drR a ha hA) (drR b hb hB)).mp q)), decide_eq_true e]
        exact h83 false true
  unfold f_Mo_passage_42 f_Mo_passage_62
  by_cases e3 : it = 3
  · rw [zi_3, if_pos (congrArg iz e3), rf_rc h, Option.bind_some, km_other (rf_KR h hk) ha.1 ha.2 hA hb.1 hb.2 hB, Option.bind_some]
    have hs : scz (kp A) a b it = owz (bp (kp A) a) (bp (kp A) b) := by
      unfold scz
      rw [decide_eq_true e3, Bool.true_and]
    cases hw : owz (bp (kp A) a) (bp (kp A) b) with
    | false =>
      rw [if_pos (by decide)]
      rw [hs, hw] at h63
      exact h63
    | true =>
      rw [if_neg (by decide)]
      rw [hs, hw] at h63
      exact h63
  · rw [zi_3, if_neg (fun q => e3 ((iz_eq (iR_s (by omega) (by omega)) (iR_s (by omega) (by omega))).mp q))]
    have hs : scz (kp A) a b it = false := by
      unfold scz
      rw [decide_eq_false e3, Bool.false_and]
    rw [hs] at h63
    exact h63
theorem rf_passage (h : RF μ M A S L v l) (hk : KA A) (hl : l.length ≤ 32) {a b it : Int} (ha : 0 ≤ a ∧ a < 6) (hA : WB (bp (kp A) a)) (hb : 0 ≤ b ∧ b < 6) (hB : WB (bp (kp A) b)) (hi : 0 ≤ it ∧ it ≤ 3) (ho : bok (bp (kp A) b) it) (bk : Bool) : ∃ μ' v', f_Mo_passage M μ (iz a) (iz b) (iz it) (iz (bI bk)) = some μ' ∧ RF μ' M A S L v' (l ++ psz (kp A) a b it bk) ∧ Out M μ μ' := by
  unfold f_Mo_passage f_Mo_passage_19 f_Mo_passage_20 f_Mo_passage_41
  cases bk with
  | false =>
    obtain ⟨m1, s1, k1, o1⟩ := rf_p42 h hk hl ha hA hb hB hi ho false
    refine ⟨m1, v, ?_, k1, o1⟩
    rw [if_pos (by decide), if_pos (by decide), zj_0]
    exact s1
  | true =>
    rw [if_neg (by decide)]
    by_cases e3 : 3 ≤ it
    · obtain ⟨m1, s1, k1, o1⟩ := rf_p42 h hk hl ha hA hb hB hi ho true
      have d0 : ∀ p : Int, drk (kp A) p it true = 0 := fun p => if_neg (fun q => by have := q.2; omega)
      rw [d0, d0] at s1
      refine ⟨m1, v, ?_, k1, o1⟩
      have c3 : (3 : Int32) ≤ iz it := by
        rw [zi_3]
        exact (iz_le (iR_s (by omega) (by omega)) (iR_s (by omega) (by omega))).mpr e3
      rw [if_pos c3, if_neg (by decide), if_pos c3, zj_0]
      exact s1
    · have c3 : ¬ (3 : Int32) ≤ iz it := by
        rw [zi_3]
        exact fun q => e3 ((iz_le (iR_s (by omega) (by omega)) (iR_s (by omega) (by omega))).mp q)
      have d1 : ∀ p : Int, drk (kp A) p it true = blz (kp A) p it := fun p => if_pos ⟨rfl, by omega⟩
      obtain ⟨m1, v1, s1, k1, o1⟩ := rf_black h hk (by omega) ha.1 ha.2 hA hi
      obtain ⟨m2, v2, s2, k2, o2⟩ := rf_black k1 hk (by omega) hb.1 hb.2 hB hi
      obtain ⟨m3, s3, k3, o3⟩ := rf_p42 k2 hk hl ha hA hb hB hi ho true
      rw [d1, d1] at s3
      refine ⟨m3, v2, ?_, k3, (o1.tr o2).tr o3⟩
      rw [if_neg c3, rf_rc h, Option.bind_some, s1, Option.bind_some, if_neg (by decide), if_neg c3]
      change ((mrc m1 (some M) 11).bind fun a => f_Mo_blackLevel a m1 (iz b) (iz it)).bind _ = _
      rw [rf_rc k1, Option.bind_some, s2, Option.bind_some]
      exact s3
end PAS
