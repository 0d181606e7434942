/-! The pure functions' answer. -/
theorem pure_law (L : Nat) (xs : Nat → Int32) (z : Nat) (hL : L ≤ 3072) : ∃ r, f_Law_law L xs (fun _ => none) z 0 = some r ∧ r.1 = 1 ∧ r.2.2.1 - z ≤ 600000 ∧ r.2.2.2 - 0 ≤ 7302250 := by
  obtain ⟨m1, e1⟩ : ∃ m : mM, m = mup (fun _ => none) z (.inr (10, cl0)) := ⟨_, rfl⟩
  have o1 : ∀ c, c ≠ z → m1 c = none := fun c hc => by rw [e1, mup_ne _ _ hc]
  obtain ⟨⟨q1, q2, q3⟩, s2, y1, y2, y3, x0, x1, x3, x4, x5, x6, x7, x8, o2⟩ := cl_new0 (μ := m1) (X := z) (w := 11) (by rw [e1]; exact mup_self _ _ _)
  change q2 = z + 9 at y1
  subst y1
  change 11 ≤ q3 at y2
  change q3 ≤ 11 + 400 at y3
  obtain ⟨m3, e3⟩ : ∃ m : mM, m = mup q1 (z + 9) (.inr (11, mo0)) := ⟨_, rfl⟩
  have o3 : ∀ c, c ≠ z + 9 → m3 c = q1 c := fun c hc => by rw [e3, mup_ne _ _ hc]
  obtain ⟨⟨p1, p2, p3⟩, s4, v1, v2, v3, M4, o4⟩ := mo_new0 (μ := m3) (M := z + 9) (w := q3 + 21) (by rw [e3]; exact mup_self _ _ _)
  change p2 = z + 9 + 17 at v1
  subst v1
  change q3 + 21 ≤ p3 at v2
  change p3 ≤ q3 + 21 + 2300 at v3
  have lo : ∀ c, c < z + 9 → p1 c = q1 c := fun c hc => (o4 c (Or.inl hc)).trans (o3 c (by omega))
  have hIN : IN p1 z (z + 26) := by
    refine in_new ((lo _ (by omega)).trans x0) (bu_o x1 (lo _ (by omega)) (lo _ (by omega))) ((lo _ (by omega)).trans x3) ((lo _ (by omega)).trans x4) ((lo _ (by omega)).trans x5) ((lo _ (by omega)).trans x6) ((lo _ (by omega)).trans x7) ((lo _ (by omega)).trans x8) M4 (fun c hc => ?_)
    have e := o4 c (Or.inr (by omega))
    exact e.trans ((o3 c (by omega)).trans ((o2 c (Or.inr (by omega))).trans (o1 c (by omega))))
  obtain ⟨r, t1, t2, t3, t4, t5, t6⟩ := lw_loop (xs := xs) hL (L / 6) 4096 0 p1 (z + 26) p3 (by omega) (by omega) hIN
  refine ⟨r, ?_, t2, by omega, by omega⟩
  unfold f_Law_law
  refine mmT_i (Nat.le_refl _) (Nat.le_refl _) ?_ (by omega) (by omega)
  have n1 : mnew (fun _ => none) z 10 [.null, .null, .int 0, .null, .int 0, .null, .null, .null, .int 0, .null, .int 0] = some m1 := by rw [e1]; rfl
  rw [n1, Option.bind_some]
  refine mmT_i (by omega) (by omega) ?_ (by omega) (by omega)
  rw [Option.bind_some]
  change ((f_CL_init z m1 (z + 1) 11).bind _) = _
  rw [s2, Option.bind_some]
  refine mmT_i (by show z + 1 ≤ z + 9; omega) (by show 0 + 11 ≤ q3; omega) ?_ (by show z + 9 ≤ r.2.2.1; omega) (by show q3 ≤ r.2.2.2; omega)
  have n3 : mnew q1 (z + 9) 11 [.null, .int 0, .null, .int 0, .null, .null, .null, .null, .null, .null, .int 0, .int 0, .null, .null, .null, .null, .int 0, .null, .null, .null, .null] = some m3 := by rw [e3]; rfl
  change ((mnew q1 (z + 9) 11 [.null, .int 0, .null, .int 0, .null, .null, .null, .null, .null, .null, .int 0, .int 0, .null, .null, .null, .null, .int 0, .null, .null, .null, .null]).bind _) = _
  rw [n3, Option.bind_some]
  refine mmT_i (by show z + 9 ≤ z + 9 + 1; omega) (by show q3 ≤ q3 + 21; omega) ?_ (by show z + 9 + 1 ≤ r.2.2.1; omega) (by show q3 + 21 ≤ r.2.2.2; omega)
  rw [Option.bind_some]
  change ((f_Mo_init (z + 9) m3 (z + 9 + 1) (q3 + 21)).bind _) = _
  rw [s4, Option.bind_some]
  refine mmT_i (by show z + 9 + 1 ≤ z + 9 + 17; omega) (by show q3 + 21 ≤ p3; omega) ?_ (by show z + 9 + 17 ≤ r.2.2.1; omega) (by show p3 ≤ r.2.2.2; omega)
  exact t1
