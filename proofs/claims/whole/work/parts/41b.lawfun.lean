def f_Law_law_755 (L : Nat) (xs : Nat → Int32) (μ : mM) (z w : Nat) : Option (Int32 × mM × Nat × Nat) :=
  some ((1 : Int32), μ, z, w)

def f_Law_law_749 (L : Nat) (xs : Nat → Int32) (k : mM → Nat → Nat → (Option Nat) → (Option Nat) → Int32 → Option (Int32 × mM × Nat × Nat)) (kx755 : mM → Nat → Nat → Option (Int32 × mM × Nat × Nat)) (μ : mM) (z w : Nat) (x1 : Option Nat) (x2 : Option Nat) (x3 : Int32) : Option (Int32 × mM × Nat × Nat) :=
  k μ z w x1 x2 (x3 + (6 : Int32))

def f_Law_law_541 (L : Nat) (xs : Nat → Int32) (k : mM → Nat → Nat → (Option Nat) → (Option Nat) → Int32 → Option (Int32 × mM × Nat × Nat)) (kx755 : mM → Nat → Nat → Option (Int32 × mM × Nat × Nat)) (μ : mM) (z w : Nat) (x1 : Option Nat) (x2 : Option Nat) (x3 : Int32) (s0 : Int32) (s1 : Option Nat) (s2 : Int32) (s3 : Int32) (s4 : Int32) (s5 : Int32) : Option (Int32 × mM × Nat × Nat) :=
  ((mrc μ (s1) 11).bind fun a => f_Mo_extend a μ s2 s3 s4 s5).bind fun q109 =>
  if s0 = q109.1 then
    f_Law_law_749 L xs k kx755 q109.2 z w x1 x2 x3
  else
    some ((0 : Int32), q109.2, z, w)

def f_Law_law_509 (L : Nat) (xs : Nat → Int32) (k : mM → Nat → Nat → (Option Nat) → (Option Nat) → Int32 → Option (Int32 × mM × Nat × Nat)) (kx755 : mM → Nat → Nat → Option (Int32 × mM × Nat × Nat)) (μ : mM) (z w : Nat) (x1 : Option Nat) (x2 : Option Nat) (x3 : Int32) (s0 : Option Nat) (s1 : Int32) (s2 : Int32) (s3 : Int32) (s4 : Int32) : Option (Int32 × mM × Nat × Nat) :=
  ((mrc μ (s0) 10).bind fun a => f_CL_extend a μ z w s1 s2 s3 s4).bind fun q104 => mmT z w q104.2.2.1 q104.2.2.2 <|
  (mgS L xs (x3 + (1 : Int32))).bind fun v105 =>
  (mgS L xs (x3 + (2 : Int32))).bind fun v106 =>
  (mgS L xs (x3 + (3 : Int32))).bind fun v107 =>
  (mgS L xs (x3 + (4 : Int32))).bind fun v108 =>
  if v108 = 0 then
    f_Law_law_541 L xs k kx755 q104.2.1 q104.2.2.1 q104.2.2.2 x1 x2 x3 q104.1 x2 v105 v106 v107 (0 : Int32)
  else
    f_Law_law_541 L xs k kx755 q104.2.1 q104.2.2.1 q104.2.2.2 x1 x2 x3 q104.1 x2 v105 v106 v107 (1 : Int32)

def f_Law_law_472 (L : Nat) (xs : Nat → Int32) (k : mM → Nat → Nat → (Option Nat) → (Option Nat) → Int32 → Option (Int32 × mM × Nat × Nat)) (kx755 : mM → Nat → Nat → Option (Int32 × mM × Nat × Nat)) (μ : mM) (z w : Nat) (x1 : Option Nat) (x2 : Option Nat) (x3 : Int32) (s0 : Int32) (s1 : Option Nat) (s2 : Int32) (s3 : Int32) (s4 : Int32) (s5 : Int32) : Option (Int32 × mM × Nat × Nat) :=
  ((mrc μ (s1) 11).bind fun a => f_Mo_link a μ s2 s3 s4 s5).bind fun q103 =>
  if s0 = q103.1 then
    f_Law_law_749 L xs k kx755 q103.2 z w x1 x2 x3
  else
    some ((0 : Int32), q103.2, z, w)

def f_Law_law_440 (L : Nat) (xs : Nat → Int32) (k : mM → Nat → Nat → (Option Nat) → (Option Nat) → Int32 → Option (Int32 × mM × Nat × Nat)) (kx755 : mM → Nat → Nat → Option (Int32 × mM × Nat × Nat)) (μ : mM) (z w : Nat) (x1 : Option Nat) (x2 : Option Nat) (x3 : Int32) (s0 : Option Nat) (s1 : Int32) (s2 : Int32) (s3 : Int32) (s4 : Int32) : Option (Int32 × mM × Nat × Nat) :=
  ((mrc μ (s0) 10).bind fun a => f_CL_link a μ z w s1 s2 s3 s4).bind fun q98 => mmT z w q98.2.2.1 q98.2.2.2 <|
  (mgS L xs (x3 + (1 : Int32))).bind fun v99 =>
  (mgS L xs (x3 + (2 : Int32))).bind fun v100 =>
  (mgS L xs (x3 + (3 : Int32))).bind fun v101 =>
  (mgS L xs (x3 + (4 : Int32))).bind fun v102 =>
  if v102 = 0 then
    f_Law_law_472 L xs k kx755 q98.2.1 q98.2.2.1 q98.2.2.2 x1 x2 x3 q98.1 x2 v99 v100 v101 (0 : Int32)
  else
    f_Law_law_472 L xs k kx755 q98.2.1 q98.2.2.1 q98.2.2.2 x1 x2 x3 q98.1 x2 v99 v100 v101 (1 : Int32)

def f_Law_law_403 (L : Nat) (xs : Nat → Int32) (k : mM → Nat → Nat → (Option Nat) → (Option Nat) → Int32 → Option (Int32 × mM × Nat × Nat)) (kx755 : mM → Nat → Nat → Option (Int32 × mM × Nat × Nat)) (μ : mM) (z w : Nat) (x1 : Option Nat) (x2 : Option Nat) (x3 : Int32) (s0 : Int32) (s1 : Option Nat) (s2 : Int32) (s3 : Int32) (s4 : Int32) (s5 : Int32) : Option (Int32 × mM × Nat × Nat) :=
  ((mrc μ (s1) 11).bind fun a => f_Mo_curve μ a s2 s3 s4 s5).bind fun q97 =>
  if s0 = q97 then
    f_Law_law_749 L xs k kx755 μ z w x1 x2 x3
  else
    some ((0 : Int32), μ, z, w)

def f_Law_law_371 (L : Nat) (xs : Nat → Int32) (k : mM → Nat → Nat → (Option Nat) → (Option Nat) → Int32 → Option (Int32 × mM × Nat × Nat)) (kx755 : mM → Nat → Nat → Option (Int32 × mM × Nat × Nat)) (μ : mM) (z w : Nat) (x1 : Option Nat) (x2 : Option Nat) (x3 : Int32) (s0 : Option Nat) (s1 : Int32) (s2 : Int32) (s3 : Int32) (s4 : Int32) : Option (Int32 × mM × Nat × Nat) :=
  ((mrc μ (s0) 10).bind fun a => f_CL_curve μ a s1 s2 s3 s4).bind fun q92 =>
  (mgS L xs (x3 + (1 : Int32))).bind fun v93 =>
  (mgS L xs (x3 + (2 : Int32))).bind fun v94 =>
  (mgS L xs (x3 + (3 : Int32))).bind fun v95 =>
  (mgS L xs (x3 + (4 : Int32))).bind fun v96 =>
  if v96 = 0 then
    f_Law_law_403 L xs k kx755 μ z w x1 x2 x3 q92 x2 v93 v94 v95 (0 : Int32)
  else
    f_Law_law_403 L xs k kx755 μ z w x1 x2 x3 q92 x2 v93 v94 v95 (1 : Int32)

def f_Law_law_18 (L : Nat) (xs : Nat → Int32) (kx755 : mM → Nat → Nat → Option (Int32 × mM × Nat × Nat)) : Nat → mM → Nat → Nat → (Option Nat) → (Option Nat) → Int32 → Option (Int32 × mM × Nat × Nat)
  | 0, _, _, _, _, _, _ => none
  | n + 1, μ, z, w, x1, x2, x3 =>
  if ((nI L) - (6 : Int32)) < x3 then
    kx755 μ z w
  else
    (mgS L xs x3).bind fun v5 =>
    if (v5 &&& (31 : Int32)) = 0 then
      (mgS L xs (x3 + (1 : Int32))).bind fun v6 =>
      (mgS L xs (x3 + (2 : Int32))).bind fun v7 =>
      ((mrc μ (x1) 10).bind fun a => f_CL_add a μ v6 v7).bind fun q8 =>
      (mgS L xs (x3 + (1 : Int32))).bind fun v9 =>
      (mgS L xs (x3 + (2 : Int32))).bind fun v10 =>
      ((mrc q8.2 (x2) 11).bind fun a => f_Mo_add a q8.2 v9 v10).bind fun q11 =>
      if q8.1 = q11.1 then
        f_Law_law_749 L xs (f_Law_law_18 L xs kx755 n) kx755 q11.2 z w x1 x2 x3
      else
        some ((0 : Int32), q11.2, z, w)
    else
    if (v5 &&& (31 : Int32)) = 1 then
      (mgS L xs (x3 + (1 : Int32))).bind fun v12 =>
      (mgS L xs (x3 + (2 : Int32))).bind fun v13 =>
      ((mrc μ (x1) 10).bind fun a => f_CL_set a μ v12 v13).bind fun q14 =>
      (mgS L xs (x3 + (1 : Int32))).bind fun v15 =>
      (mgS L xs (x3 + (2 : Int32))).bind fun v16 =>
      ((mrc q14.2 (x2) 11).bind fun a => f_Mo_set a q14.2 v15 v16).bind fun q17 =>
      if q14.1 = q17.1 then
        f_Law_law_749 L xs (f_Law_law_18 L xs kx755 n) kx755 q17.2 z w x1 x2 x3
      else
        some ((0 : Int32), q17.2, z, w)
    else
    if (v5 &&& (31 : Int32)) = 2 then
      ((mrc μ (x1) 10).bind fun a => f_CL_clear a μ).bind fun q18 =>
      ((mrc q18 (x2) 11).bind fun a => f_Mo_clear a q18).bind fun q19 =>
      f_Law_law_749 L xs (f_Law_law_18 L xs kx755 n) kx755 q19 z w x1 x2 x3
    else
    if (v5 &&& (31 : Int32)) = 3 then
      ((mrc μ (x1) 10).bind fun a => f_CL_size μ a).bind fun q20 =>
      ((mrc μ (x2) 11).bind fun a => f_Mo_size μ a).bind fun q21 =>
      if q20 = q21 then
        f_Law_law_749 L xs (f_Law_law_18 L xs kx755 n) kx755 μ z w x1 x2 x3
      else
        some ((0 : Int32), μ, z, w)
    else
    if (v5 &&& (31 : Int32)) = 4 then
      (mgS L xs (x3 + (1 : Int32))).bind fun v22 =>
      ((mrc μ (x1) 10).bind fun a => f_CL_at μ a v22).bind fun q23 =>
      (mgS L xs (x3 + (1 : Int32))).bind fun v24 =>
      ((mrc μ (x2) 11).bind fun a => f_Mo_at μ a v24).bind fun q25 =>
      if q23 = q25 then
        f_Law_law_749 L xs (f_Law_law_18 L xs kx755 n) kx755 μ z w x1 x2 x3
      else
        some ((0 : Int32), μ, z, w)
    else
    if (v5 &&& (31 : Int32)) = 5 then
      ((mrc μ (x1) 10).bind fun a => f_CL_parse a μ z w).bind fun q26 => mmT z w q26.2.2.1 q26.2.2.2 <|
      ((mrc q26.2.1 (x2) 11).bind fun a => f_Mo_parse a q26.2.1).bind fun q27 =>
      if q26.1 = q27.1 then
        f_Law_law_749 L xs (f_Law_law_18 L xs kx755 n) kx755 q27.2 q26.2.2.1 q26.2.2.2 x1 x2 x3
      else
        some ((0 : Int32), q27.2, q26.2.2.1, q26.2.2.2)
    else
    if (v5 &&& (31 : Int32)) = 6 then
      ((mrc μ (x1) 10).bind fun a => f_CL_profiles μ a).bind fun q28 =>
      ((mrc μ (x2) 11).bind fun a => f_Mo_profiles μ a).bind fun q29 =>
      if q28 = q29 then
        f_Law_law_749 L xs (f_Law_law_18 L xs kx755 n) kx755 μ z w x1 x2 x3
      else
        some ((0 : Int32), μ, z, w)
    else
    if (v5 &&& (31 : Int32)) = 7 then
      (mgS L xs (x3 + (1 : Int32))).bind fun v30 =>
      ((mrc μ (x1) 10).bind fun a => f_CL_elements μ a v30).bind fun q31 =>
      (mgS L xs (x3 + (1 : Int32))).bind fun v32 =>
      ((mrc μ (x2) 11).bind fun a => f_Mo_elements μ a v32).bind fun q33 =>
      if q31 = q33 then
        f_Law_law_749 L xs (f_Law_law_18 L xs kx755 n) kx755 μ z w x1 x2 x3
      else
        some ((0 : Int32), μ, z, w)
    else
    if (v5 &&& (31 : Int32)) = 8 then
      (mgS L xs (x3 + (1 : Int32))).bind fun v34 =>
      (mgS L xs (x3 + (2 : Int32))).bind fun v35 =>
      ((mrc μ (x1) 10).bind fun a => f_CL_same μ a v34 v35).bind fun q36 =>
      (mgS L xs (x3 + (1 : Int32))).bind fun v37 =>
      (mgS L xs (x3 + (2 : Int32))).bind fun v38 =>
      ((mrc μ (x2) 11).bind fun a => f_Mo_same μ a v37 v38).bind fun q39 =>
      if q36 = q39 then
        f_Law_law_749 L xs (f_Law_law_18 L xs kx755 n) kx755 μ z w x1 x2 x3
      else
        some ((0 : Int32), μ, z, w)
    else
    if (v5 &&& (31 : Int32)) = 9 then
      (mgS L xs (x3 + (1 : Int32))).bind fun v40 =>
      ((mrc μ (x1) 10).bind fun a => f_CL_write a μ v40).bind fun q41 =>
      (mgS L xs (x3 + (1 : Int32))).bind fun v42 =>
      ((mrc q41.2 (x2) 11).bind fun a => f_Mo_write a q41.2 v42).bind fun q43 =>
      if q41.1 = q43.1 then
        f_Law_law_749 L xs (f_Law_law_18 L xs kx755 n) kx755 q43.2 z w x1 x2 x3
      else
        some ((0 : Int32), q43.2, z, w)
    else
    if (v5 &&& (31 : Int32)) = 10 then
      (mgS L xs (x3 + (1 : Int32))).bind fun v44 =>
      (mgS L xs (x3 + (2 : Int32))).bind fun v45 =>
      (mgS L xs (x3 + (3 : Int32))).bind fun v46 =>
      (mgS L xs (x3 + (4 : Int32))).bind fun v47 =>
      if v47 = 0 then
        f_Law_law_371 L xs (f_Law_law_18 L xs kx755 n) kx755 μ z w x1 x2 x3 x1 v44 v45 v46 (0 : Int32)
      else
        f_Law_law_371 L xs (f_Law_law_18 L xs kx755 n) kx755 μ z w x1 x2 x3 x1 v44 v45 v46 (1 : Int32)
    else
    if (v5 &&& (31 : Int32)) = 11 then
      (mgS L xs (x3 + (1 : Int32))).bind fun v48 =>
      (mgS L xs (x3 + (2 : Int32))).bind fun v49 =>
      (mgS L xs (x3 + (3 : Int32))).bind fun v50 =>
      (mgS L xs (x3 + (4 : Int32))).bind fun v51 =>
      if v51 = 0 then
        f_Law_law_440 L xs (f_Law_law_18 L xs kx755 n) kx755 μ z w x1 x2 x3 x1 v48 v49 v50 (0 : Int32)
      else
        f_Law_law_440 L xs (f_Law_law_18 L xs kx755 n) kx755 μ z w x1 x2 x3 x1 v48 v49 v50 (1 : Int32)
    else
    if (v5 &&& (31 : Int32)) = 12 then
      (mgS L xs (x3 + (1 : Int32))).bind fun v52 =>
      (mgS L xs (x3 + (2 : Int32))).bind fun v53 =>
      (mgS L xs (x3 + (3 : Int32))).bind fun v54 =>
      (mgS L xs (x3 + (4 : Int32))).bind fun v55 =>
      if v55 = 0 then
        f_Law_law_509 L xs (f_Law_law_18 L xs kx755 n) kx755 μ z w x1 x2 x3 x1 v52 v53 v54 (0 : Int32)
      else
        f_Law_law_509 L xs (f_Law_law_18 L xs kx755 n) kx755 μ z w x1 x2 x3 x1 v52 v53 v54 (1 : Int32)
    else
    if (v5 &&& (31 : Int32)) = 13 then
      ((mrc μ (x1) 10).bind fun a => f_CL_links μ a).bind fun q56 =>
      ((mrc μ (x2) 11).bind fun a => f_Mo_links μ a).bind fun q57 =>
      if q56 = q57 then
        f_Law_law_749 L xs (f_Law_law_18 L xs kx755 n) kx755 μ z w x1 x2 x3
      else
        some ((0 : Int32), μ, z, w)
    else
    if (v5 &&& (31 : Int32)) = 14 then
      (mgS L xs (x3 + (1 : Int32))).bind fun v58 =>
      ((mrc μ (x1) 10).bind fun a => f_CL_pieces μ a v58).bind fun q59 =>
      (mgS L xs (x3 + (1 : Int32))).bind fun v60 =>
      ((mrc μ (x2) 11).bind fun a => f_Mo_pieces a μ v60).bind fun q61 =>
      if q59 = q61.1 then
        f_Law_law_749 L xs (f_Law_law_18 L xs kx755 n) kx755 q61.2 z w x1 x2 x3
      else
        some ((0 : Int32), q61.2, z, w)
    else
    if (v5 &&& (31 : Int32)) = 15 then
      (mgS L xs (x3 + (1 : Int32))).bind fun v62 =>
      (mgS L xs (x3 + (2 : Int32))).bind fun v63 =>
      ((mrc μ (x1) 10).bind fun a => f_CL_piece μ a v62 v63).bind fun q64 =>
      (mgS L xs (x3 + (1 : Int32))).bind fun v65 =>
      (mgS L xs (x3 + (2 : Int32))).bind fun v66 =>
      ((mrc μ (x2) 11).bind fun a => f_Mo_piece a μ v65 v66).bind fun q67 =>
      if q64 = q67.1 then
        f_Law_law_749 L xs (f_Law_law_18 L xs kx755 n) kx755 q67.2 z w x1 x2 x3
      else
        some ((0 : Int32), q67.2, z, w)
    else
    if (v5 &&& (31 : Int32)) = 16 then
      (mgS L xs (x3 + (1 : Int32))).bind fun v68 =>
      (mgS L xs (x3 + (2 : Int32))).bind fun v69 =>
      (mgS L xs (x3 + (3 : Int32))).bind fun v70 =>
      (mgS L xs (x3 + (4 : Int32))).bind fun v71 =>
      ((mrc μ (x1) 10).bind fun a => f_CL_convert a μ v68 v69 v70 v71).bind fun q72 =>
      (mgS L xs (x3 + (1 : Int32))).bind fun v73 =>
      (mgS L xs (x3 + (2 : Int32))).bind fun v74 =>
      (mgS L xs (x3 + (3 : Int32))).bind fun v75 =>
      (mgS L xs (x3 + (4 : Int32))).bind fun v76 =>
      ((mrc q72.2 (x2) 11).bind fun a => f_Mo_convert a q72.2 v73 v74 v75 v76).bind fun q77 =>
      if q72.1 = q77.1 then
        f_Law_law_749 L xs (f_Law_law_18 L xs kx755 n) kx755 q77.2 z w x1 x2 x3
      else
        some ((0 : Int32), q77.2, z, w)
    else
    if (v5 &&& (31 : Int32)) = 17 then
      (mgS L xs (x3 + (1 : Int32))).bind fun v78 =>
      (mgS L xs (x3 + (2 : Int32))).bind fun v79 =>
      (mgS L xs (x3 + (3 : Int32))).bind fun v80 =>
      (mgS L xs (x3 + (4 : Int32))).bind fun v81 =>
      (mgS L xs (x3 + (5 : Int32))).bind fun v82 =>
      ((mrc μ (x1) 10).bind fun a => f_CL_after a μ v78 v79 v80 v81 v82).bind fun q83 =>
      (mgS L xs (x3 + (1 : Int32))).bind fun v84 =>
      (mgS L xs (x3 + (2 : Int32))).bind fun v85 =>
      (mgS L xs (x3 + (3 : Int32))).bind fun v86 =>
      (mgS L xs (x3 + (4 : Int32))).bind fun v87 =>
      (mgS L xs (x3 + (5 : Int32))).bind fun v88 =>
      ((mrc q83.2 (x2) 11).bind fun a => f_Mo_after a q83.2 v84 v85 v86 v87 v88).bind fun q89 =>
      if q83.1 = q89.1 then
        f_Law_law_749 L xs (f_Law_law_18 L xs kx755 n) kx755 q89.2 z w x1 x2 x3
      else
        some ((0 : Int32), q89.2, z, w)
    else
    if (v5 &&& (31 : Int32)) = 18 then
      ((mrc μ (x1) 10).bind fun a => f_CL_work μ a).bind fun q90 =>
      ((mrc μ (x2) 11).bind fun a => f_Mo_work μ a).bind fun q91 =>
      if q90 = q91 then
        f_Law_law_749 L xs (f_Law_law_18 L xs kx755 n) kx755 μ z w x1 x2 x3
      else
        some ((0 : Int32), μ, z, w)
    else
    f_Law_law_749 L xs (f_Law_law_18 L xs kx755 n) kx755 μ z w x1 x2 x3

def f_Law_law (L : Nat) (xs : Nat → Int32) (μ : mM) (z w : Nat) : Option (Int32 × mM × Nat × Nat) :=
  mmT z w z w <|
  (mnew μ z 10 [.null, .null, .int 0, .null, .int 0, .null, .null, .null, .int 0, .null, .int 0]).bind fun m1 => mmT z w (z + 1) (w + 11) <|
  ((some z).bind fun a => f_CL_init a m1 (z + 1) (w + 11)).bind fun q2 => mmT (z + 1) (w + 11) q2.2.1 q2.2.2 <|
  (mnew q2.1 q2.2.1 11 [.null, .int 0, .null, .int 0, .null, .null, .null, .null, .null, .null, .int 0, .int 0, .null, .null, .null, .null, .int 0, .null, .null, .null, .null]).bind fun m3 => mmT q2.2.1 q2.2.2 (q2.2.1 + 1) (q2.2.2 + 21) <|
  ((some q2.2.1).bind fun a => f_Mo_init a m3 (q2.2.1 + 1) (q2.2.2 + 21)).bind fun q4 => mmT (q2.2.1 + 1) (q2.2.2 + 21) q4.2.1 q4.2.2 <|
  f_Law_law_18 L xs (fun μ z w => f_Law_law_755 L xs μ z w) 4096 q4.1 q4.2.1 q4.2.2 (some z) (some q2.2.1) (0 : Int32)

