-- N ColourLinker$Profile.<init>([II)V
def f_Profile_init_497 (h0 : Nat) (μ : mM) (z w : Nat) : Option (mM × Nat × Nat) :=
  some (μ, z, w)

def f_Profile_init_494 (h0 : Nat) (μ : mM) (z w : Nat) (s0 : Option Nat) (s1 : Option Nat) : Option (mM × Nat × Nat) :=
  (mpA μ (s0) [9] 7 s1).bind fun m89 =>
  f_Profile_init_497 h0 m89 z w

def f_Profile_init_471 (h0 : Nat) (μ : mM) (z w : Nat) (x1 : Option Nat) (x4 : Int32) (s0 : Option Nat) (s1 : Option Nat) : Option (mM × Nat × Nat) :=
  (mpA μ (s0) [9] 6 s1).bind fun m85 =>
  if x4 = 0 then
    f_Profile_init_494 h0 m85 z w (some h0) none
  else
    (mfA m85 (some h0) [9] 2).bind fun v86 =>
    (mgI m85 (v86) (5 : Int32)).bind fun v87 =>
    (f_Matrix_back m85 z w x1 v87).bind fun q88 => mmV z w q88.2.2.1 q88.2.2.2 <|
    f_Profile_init_494 h0 q88.2.1 q88.2.2.1 q88.2.2.2 (some h0) q88.1

def f_Profile_init_413 (h0 : Nat) (μ : mM) (z w : Nat) (x1 : Option Nat) (x3 : Int32) (x4 : Int32) : Option (mM × Nat × Nat) :=
  if x3 = 0 then
    if x4 = 0 then
      f_Profile_init_471 h0 μ z w x1 x4 (some h0) none
    else
      (mfA μ (some h0) [9] 2).bind fun v74 =>
      (mgI μ (v74) (5 : Int32)).bind fun v75 =>
      (f_Matrix_forth μ z w x1 v75).bind fun q76 => mmV z w q76.2.2.1 q76.2.2.2 <|
      f_Profile_init_471 h0 q76.2.1 q76.2.2.1 q76.2.2.2 x1 x4 (some h0) q76.1
  else
    (mnew μ z 4 [.int 0, .int 0, .int 0]).bind fun m77 => mmV z w (z + 1) (w + 3) <|
    (mgI m77 (x1) (4 : Int32)).bind fun v78 =>
    ((some z).bind fun a => f_Gray_init a m77 (4 : Int32) v78).bind fun q79 =>
    (mpA q79 (some h0) [9] 6 (some z)).bind fun m80 =>
    (mnew m80 (z + 1) 4 [.int 0, .int 0, .int 0]).bind fun m81 => mmV (z + 1) (w + 3) ((z + 1) + 1) ((w + 3) + 3) <|
    (mgI m81 (x1) (4 : Int32)).bind fun v82 =>
    ((some (z + 1)).bind fun a => f_Gray_init a m81 (9 : Int32) v82).bind fun q83 =>
    (mpA q83 (some h0) [9] 7 (some (z + 1))).bind fun m84 =>
    f_Profile_init_497 h0 m84 ((z + 1) + 1) ((w + 3) + 3)

def f_Profile_init_369 (h0 : Nat) (μ : mM) (z w : Nat) (x1 : Option Nat) (x3 : Int32) (x4 : Int32) (s0 : Option Nat) : Option (mM × Nat × Nat) :=
  (mnew μ z 3 [.int 0, .int 0, .null]).bind fun m68 => mmV z w (z + 1) (w + 3) <|
  ((some z).bind fun a => f_Curves_init a m68 (1 : Int32) s0).bind fun q69 =>
  (mpA q69 (some h0) [9] 5 (some z)).bind fun m70 =>
  (mnew m70 (z + 1) 3 [.int 0, .int 0, .null]).bind fun m71 => mmV (z + 1) (w + 3) ((z + 1) + 1) ((w + 3) + 3) <|
  ((some (z + 1)).bind fun a => f_Curves_init a m71 (11 : Int32) s0).bind fun q72 =>
  (mpA q72 (some h0) [9] 8 (some (z + 1))).bind fun m73 =>
  f_Profile_init_413 h0 m73 ((z + 1) + 1) ((w + 3) + 3) x1 x3 x4

def f_Profile_init_318 (h0 : Nat) (μ : mM) (z w : Nat) (x1 : Option Nat) (x3 : Int32) (x4 : Int32) : Option (mM × Nat × Nat) :=
  if x3 = 0 then
    (mna μ z 6 (3 : Int32)).bind fun m54 => mmV z w (z + 1) (w + ((3 : Int32)).toNatClampNeg) <|
    (mfA m54 (some h0) [9] 3).bind fun v55 =>
    (mgA m54 (v55) (2 : Int32)).bind fun v56 =>
    (msA m54 (some z) (0 : Int32) v56).bind fun m57 =>
    (mfA m57 (some h0) [9] 3).bind fun v58 =>
    (mgA m57 (v58) (3 : Int32)).bind fun v59 =>
    (msA m57 (some z) (1 : Int32) v59).bind fun m60 =>
    (mfA m60 (some h0) [9] 3).bind fun v61 =>
    (mgA m60 (v61) (4 : Int32)).bind fun v62 =>
    (msA m60 (some z) (2 : Int32) v62).bind fun m63 =>
    f_Profile_init_369 h0 m63 (z + 1) (w + ((3 : Int32)).toNatClampNeg) x1 x3 x4 (some z)
  else
    (mna μ z 6 (1 : Int32)).bind fun m64 => mmV z w (z + 1) (w + ((1 : Int32)).toNatClampNeg) <|
    (mfA m64 (some h0) [9] 3).bind fun v65 =>
    (mgA m64 (v65) (1 : Int32)).bind fun v66 =>
    (msA m64 (some z) (0 : Int32) v66).bind fun m67 =>
    f_Profile_init_369 h0 m67 (z + 1) (w + ((1 : Int32)).toNatClampNeg) x1 x3 x4 (some z)

def f_Profile_init_307 (h0 : Nat) (μ : mM) (z w : Nat) (x1 : Option Nat) (x3 : Int32) (s0 : Int32) : Option (mM × Nat × Nat) :=
  if x3 = 0 then
    if s0 = 0 then
      (mpA μ (some h0) [9] 5 none).bind fun m52 =>
      (mpA m52 (some h0) [9] 8 none).bind fun m53 =>
      f_Profile_init_413 h0 m53 z w x1 x3 s0
    else
      f_Profile_init_318 h0 μ z w x1 x3 s0
  else
    f_Profile_init_318 h0 μ z w x1 x3 s0

def f_Profile_init_306 (h0 : Nat) (μ : mM) (z w : Nat) (x1 : Option Nat) (x3 : Int32) : Option (mM × Nat × Nat) :=
  f_Profile_init_307 h0 μ z w x1 x3 (0 : Int32)

def f_Profile_init_260 (h0 : Nat) (μ : mM) (z w : Nat) (x1 : Option Nat) (x3 : Int32) : Option (mM × Nat × Nat) :=
  (mgI μ (x1) (4 : Int32)).bind fun v43 =>
  if v43 = 0 then
    (mfA μ (some h0) [9] 2).bind fun v44 =>
    (mgI μ (v44) (2 : Int32)).bind fun v45 =>
    if v45 = 0 then
      f_Profile_init_306 h0 μ z w x1 x3
    else
      (mfA μ (some h0) [9] 2).bind fun v46 =>
      (mgI μ (v46) (3 : Int32)).bind fun v47 =>
      if v47 = 0 then
        f_Profile_init_306 h0 μ z w x1 x3
      else
        (mfA μ (some h0) [9] 2).bind fun v48 =>
        (mgI μ (v48) (4 : Int32)).bind fun v49 =>
        if v49 = 0 then
          f_Profile_init_306 h0 μ z w x1 x3
        else
          (mfA μ (some h0) [9] 2).bind fun v50 =>
          (mgI μ (v50) (5 : Int32)).bind fun v51 =>
          if v51 = 0 then
            f_Profile_init_306 h0 μ z w x1 x3
          else
            f_Profile_init_307 h0 μ z w x1 x3 (1 : Int32)
  else
    f_Profile_init_306 h0 μ z w x1 x3

def f_Profile_init_253 (h0 : Nat) (k : mM → Nat → Nat → (Option Nat) → Int32 → Int32 → Option (mM × Nat × Nat)) (kx260 : mM → Nat → Nat → (Option Nat) → Int32 → Option (mM × Nat × Nat)) (μ : mM) (z w : Nat) (x1 : Option Nat) (x3 : Int32) (x4 : Int32) (s0 : Option Nat) (s1 : Int32) (s2 : Option Nat) : Option (mM × Nat × Nat) :=
  (msA μ (s0) s1 s2).bind fun m42 =>
  k m42 z w x1 x3 (x4 + (1 : Int32))

def f_Profile_init_234 (h0 : Nat) (k : mM → Nat → Nat → (Option Nat) → Int32 → Int32 → Option (mM × Nat × Nat)) (kx260 : mM → Nat → Nat → (Option Nat) → Int32 → Option (mM × Nat × Nat)) (μ : mM) (z w : Nat) (x1 : Option Nat) (x3 : Int32) (x4 : Int32) (s0 : Option Nat) (s1 : Int32) : Option (mM × Nat × Nat) :=
  f_Profile_init_253 h0 k kx260 μ z w x1 x3 x4 s0 s1 none

def f_Profile_init_207 (h0 : Nat) (kx260 : mM → Nat → Nat → (Option Nat) → Int32 → Option (mM × Nat × Nat)) : Nat → mM → Nat → Nat → (Option Nat) → Int32 → Int32 → Option (mM × Nat × Nat)
  | 0, _, _, _, _, _, _ => none
  | n + 1, μ, z, w, x1, x3, x4 =>
  if (11 : Int32) < x4 then
    kx260 μ z w x1 x3
  else
    (mfA μ (some h0) [9] 4).bind fun v35 =>
    if x3 = 0 then
      (mfA μ (some h0) [9] 2).bind fun v36 =>
      (mgI μ (v36) x4).bind fun v37 =>
      if v37 = 0 then
        f_Profile_init_234 h0 (f_Profile_init_207 h0 kx260 n) kx260 μ z w x1 x3 x4 v35 x4
      else
        (mnew μ z 5 [.int 0, .int 0, .null, .int 0, .int 0, .null]).bind fun m38 => mmV z w (z + 1) (w + 6) <|
        (mfA m38 (some h0) [9] 2).bind fun v39 =>
        (mgI m38 (v39) x4).bind fun v40 =>
        ((some z).bind fun a => f_Grid_init a m38 (z + 1) (w + 6) x1 v40).bind fun q41 => mmV (z + 1) (w + 6) q41.2.1 q41.2.2 <|
        f_Profile_init_253 h0 (f_Profile_init_207 h0 kx260 n) kx260 q41.1 q41.2.1 q41.2.2 x1 x3 x4 v35 x4 (some z)
    else
      f_Profile_init_234 h0 (f_Profile_init_207 h0 kx260 n) kx260 μ z w x1 x3 x4 v35 x4

def f_Profile_init_202 (h0 : Nat) (μ : mM) (z w : Nat) (x1 : Option Nat) (s0 : Int32) : Option (mM × Nat × Nat) :=
  f_Profile_init_207 h0 (fun μ z w y1 y3 => f_Profile_init_260 h0 μ z w y1 y3) 4096 μ z w x1 s0 (6 : Int32)

def f_Profile_init_190 (h0 : Nat) (μ : mM) (z w : Nat) (x1 : Option Nat) : Option (mM × Nat × Nat) :=
  (mgI μ (x1) (3 : Int32)).bind fun v34 =>
  if v34 = (1 : Int32) then
    f_Profile_init_202 h0 μ z w x1 (1 : Int32)
  else
    f_Profile_init_202 h0 μ z w x1 (0 : Int32)

def f_Profile_init_183 (h0 : Nat) (k : mM → Nat → Nat → (Option Nat) → Int32 → Option (mM × Nat × Nat)) (kx190 : mM → Nat → Nat → (Option Nat) → Option (mM × Nat × Nat)) (μ : mM) (z w : Nat) (x1 : Option Nat) (x3 : Int32) (s0 : Option Nat) (s1 : Int32) (s2 : Int32) : Option (mM × Nat × Nat) :=
  (msI μ (s0) s1 s2).bind fun m33 =>
  k m33 z w x1 (x3 + (1 : Int32))

def f_Profile_init_138 (h0 : Nat) (kx190 : mM → Nat → Nat → (Option Nat) → Option (mM × Nat × Nat)) : Nat → mM → Nat → Nat → (Option Nat) → Int32 → Option (mM × Nat × Nat)
  | 0, _, _, _, _, _ => none
  | n + 1, μ, z, w, x1, x3 =>
  if (3 : Int32) ≤ x3 then
    kx190 μ z w x1
  else
    (mfA μ (some h0) [9] 9).bind fun v26 =>
    (mfA μ (some h0) [9] 2).bind fun v27 =>
    (mgI μ (v27) (12 : Int32)).bind fun v28 =>
    if v28 = 0 then
      (mgD x3).bind fun v32 =>
      f_Profile_init_183 h0 (f_Profile_init_138 h0 kx190 n) kx190 μ z w x1 x3 v26 x3 v32
    else
      (mfA μ (some h0) [9] 2).bind fun v29 =>
      (mgI μ (v29) (12 : Int32)).bind fun v30 =>
      (f_CL_wordAt μ x1 ((v30 + (2 : Int32)) + ((2 : Int32) * x3))).bind fun q31 =>
      f_Profile_init_183 h0 (f_Profile_init_138 h0 kx190 n) kx190 μ z w x1 x3 v26 x3 q31

def f_Profile_init_136 (h0 : Nat) (μ : mM) (z w : Nat) (x1 : Option Nat) : Option (mM × Nat × Nat) :=
  f_Profile_init_138 h0 (fun μ z w y1 => f_Profile_init_190 h0 μ z w y1) 4096 μ z w x1 (0 : Int32)

def f_Profile_init_129 (h0 : Nat) (k : mM → Nat → Nat → (Option Nat) → Int32 → Option (mM × Nat × Nat)) (kx136 : mM → Nat → Nat → (Option Nat) → Option (mM × Nat × Nat)) (μ : mM) (z w : Nat) (x1 : Option Nat) (x3 : Int32) (s0 : Option Nat) (s1 : Int32) (s2 : Option Nat) : Option (mM × Nat × Nat) :=
  (msA μ (s0) s1 s2).bind fun m25 =>
  k m25 z w x1 (x3 + (1 : Int32))

def f_Profile_init_92 (h0 : Nat) (kx136 : mM → Nat → Nat → (Option Nat) → Option (mM × Nat × Nat)) : Nat → mM → Nat → Nat → (Option Nat) → Int32 → Option (mM × Nat × Nat)
  | 0, _, _, _, _, _ => none
  | n + 1, μ, z, w, x1, x3 =>
  if (4 : Int32) < x3 then
    kx136 μ z w x1
  else
    (mfA μ (some h0) [9] 3).bind fun v18 =>
    (mfA μ (some h0) [9] 2).bind fun v19 =>
    (mgI μ (v19) x3).bind fun v20 =>
    if v20 = 0 then
      f_Profile_init_129 h0 (f_Profile_init_92 h0 kx136 n) kx136 μ z w x1 x3 v18 x3 none
    else
      (mnew μ z 2 [.int 0, .null]).bind fun m21 => mmV z w (z + 1) (w + 2) <|
      (mfA m21 (some h0) [9] 2).bind fun v22 =>
      (mgI m21 (v22) x3).bind fun v23 =>
      ((some z).bind fun a => f_Curve_init a m21 (z + 1) (w + 2) x1 v23).bind fun q24 => mmV (z + 1) (w + 2) q24.2.1 q24.2.2 <|
      f_Profile_init_129 h0 (f_Profile_init_92 h0 kx136 n) kx136 q24.1 q24.2.1 q24.2.2 x1 x3 v18 x3 (some z)

def f_Profile_init_90 (h0 : Nat) (μ : mM) (z w : Nat) (x1 : Option Nat) : Option (mM × Nat × Nat) :=
  f_Profile_init_92 h0 (fun μ z w y1 => f_Profile_init_136 h0 μ z w y1) 4096 μ z w x1 (1 : Int32)

def f_Profile_init_55 (h0 : Nat) (kx90 : mM → Nat → Nat → (Option Nat) → Option (mM × Nat × Nat)) : Nat → mM → Nat → Nat → (Option Nat) → Int32 → Option (mM × Nat × Nat)
  | 0, _, _, _, _, _ => none
  | n + 1, μ, z, w, x1, x3 =>
  (mgI μ (x1) (6 : Int32)).bind fun v13 =>
  if v13 ≤ x3 then
    kx90 μ z w x1
  else
    (mfA μ (some h0) [9] 2).bind fun v14 =>
    (mgI μ (x1) ((8 : Int32) + ((4 : Int32) * x3))).bind fun v15 =>
    (mgI μ (x1) ((9 : Int32) + ((4 : Int32) * x3))).bind fun v16 =>
    (msI μ (v14) v15 v16).bind fun m17 =>
    f_Profile_init_55 h0 kx90 n m17 z w x1 (x3 + (1 : Int32))

def f_Profile_init (h0 : Nat) (μ : mM) (z w : Nat) (x1 : Option Nat) (x2 : Int32) : Option (mM × Nat × Nat) :=
  mmV z w z w <|
  (mna μ z 0 (13 : Int32)).bind fun m1 => mmV z w (z + 1) (w + ((13 : Int32)).toNatClampNeg) <|
  (mpA m1 (some h0) [9] 2 (some z)).bind fun m2 =>
  (mna m2 (z + 1) 6 (5 : Int32)).bind fun m3 => mmV (z + 1) (w + ((13 : Int32)).toNatClampNeg) ((z + 1) + 1) ((w + ((13 : Int32)).toNatClampNeg) + ((5 : Int32)).toNatClampNeg) <|
  (mpA m3 (some h0) [9] 3 (some (z + 1))).bind fun m4 =>
  (mna m4 ((z + 1) + 1) 7 (13 : Int32)).bind fun m5 => mmV ((z + 1) + 1) ((w + ((13 : Int32)).toNatClampNeg) + ((5 : Int32)).toNatClampNeg) (((z + 1) + 1) + 1) (((w + ((13 : Int32)).toNatClampNeg) + ((5 : Int32)).toNatClampNeg) + ((13 : Int32)).toNatClampNeg) <|
  (mpA m5 (some h0) [9] 4 (some ((z + 1) + 1))).bind fun m6 =>
  (mna m6 (((z + 1) + 1) + 1) 0 (3 : Int32)).bind fun m7 => mmV (((z + 1) + 1) + 1) (((w + ((13 : Int32)).toNatClampNeg) + ((5 : Int32)).toNatClampNeg) + ((13 : Int32)).toNatClampNeg) ((((z + 1) + 1) + 1) + 1) ((((w + ((13 : Int32)).toNatClampNeg) + ((5 : Int32)).toNatClampNeg) + ((13 : Int32)).toNatClampNeg) + ((3 : Int32)).toNatClampNeg) <|
  (mpA m7 (some h0) [9] 9 (some (((z + 1) + 1) + 1))).bind fun m8 =>
  (mna m8 ((((z + 1) + 1) + 1) + 1) 0 (3 : Int32)).bind fun m9 => mmV ((((z + 1) + 1) + 1) + 1) ((((w + ((13 : Int32)).toNatClampNeg) + ((5 : Int32)).toNatClampNeg) + ((13 : Int32)).toNatClampNeg) + ((3 : Int32)).toNatClampNeg) (((((z + 1) + 1) + 1) + 1) + 1) (((((w + ((13 : Int32)).toNatClampNeg) + ((5 : Int32)).toNatClampNeg) + ((13 : Int32)).toNatClampNeg) + ((3 : Int32)).toNatClampNeg) + ((3 : Int32)).toNatClampNeg) <|
  (mpA m9 (some h0) [9] 10 (some ((((z + 1) + 1) + 1) + 1))).bind fun m10 =>
  (mpA m10 (some h0) [9] 0 x1).bind fun m11 =>
  (mpI m11 (some h0) [9] 1 x2).bind fun m12 =>
  f_Profile_init_55 h0 (fun μ z w y1 => f_Profile_init_90 h0 μ z w y1) 4096 m12 (((((z + 1) + 1) + 1) + 1) + 1) (((((w + ((13 : Int32)).toNatClampNeg) + ((5 : Int32)).toNatClampNeg) + ((13 : Int32)).toNatClampNeg) + ((3 : Int32)).toNatClampNeg) + ((3 : Int32)).toNatClampNeg) x1 (0 : Int32)

-- W java/util/Arrays.fill([II)V
def f_Arrays_fill_20 (μ : mM) : Option (mM) :=
  some (μ)

def f_Arrays_fill_5 (kx20 : mM → Option (mM)) : Nat → mM → (Option Nat) → Int32 → Int32 → Int32 → Option (mM)
  | 0, _, _, _, _, _ => none
  | n + 1, μ, x0, x1, x2, x3 =>
  if x3 ≤ x2 then
    kx20 μ
  else
    (msI μ (x0) x2 x1).bind fun m2 =>
    f_Arrays_fill_5 kx20 n m2 x0 x1 (x2 + (1 : Int32)) x3

def f_Arrays_fill (μ : mM) (x0 : Option Nat) (x1 : Int32) : Option (mM) :=
  (ml μ (x0)).bind fun v1 =>
  f_Arrays_fill_5  (fun μ => f_Arrays_fill_20 μ) 4096 μ x0 x1 (0 : Int32) v1

-- R ColourLinker$Profile.gridFor(II)LColourLinker$Grid;
def f_Profile_gridFor_50 (μ : mM) (h0 : Nat) (s0 : Option Nat) : Option (Option Nat) :=
  some (s0)

def f_Profile_gridFor_32 (μ : mM) (h0 : Nat) (x1 : Int32) (s0 : Option Nat) : Option (Option Nat) :=
  if s0 = none then
    (mfA μ (some h0) [9] 4).bind fun v3 =>
    (mgA μ (v3) x1).bind fun v4 =>
    f_Profile_gridFor_50 μ h0 v4
  else
    f_Profile_gridFor_50 μ h0 s0

def f_Profile_gridFor_31 (μ : mM) (h0 : Nat) (x1 : Int32) : Option (Option Nat) :=
  f_Profile_gridFor_32 μ h0 x1 none

def f_Profile_gridFor_10 (μ : mM) (h0 : Nat) (x1 : Int32) (s0 : Int32) : Option (Option Nat) :=
  if s0 < 0 then
    f_Profile_gridFor_31 μ h0 x1
  else
    if (3 : Int32) ≤ s0 then
      f_Profile_gridFor_31 μ h0 x1
    else
      (mfA μ (some h0) [9] 4).bind fun v1 =>
      (mgA μ (v1) (x1 + s0)).bind fun v2 =>
      f_Profile_gridFor_32 μ h0 x1 v2

def f_Profile_gridFor (μ : mM) (h0 : Nat) (x1 : Int32) (x2 : Int32) : Option (Option Nat) :=
  if x2 = (3 : Int32) then
    f_Profile_gridFor_10 μ h0 x1 (1 : Int32)
  else
    f_Profile_gridFor_10 μ h0 x1 x2

-- R ColourLinker$Profile.forthPiece(II)LColourLinker$Piece;
def f_Profile_forthPiece_37 (μ : mM) (h0 : Nat) (s0 : Option Nat) : Option (Option Nat) :=
  some (s0)

def f_Profile_forthPiece_21 (μ : mM) (h0 : Nat) (s0 : Option Nat) : Option (Option Nat) :=
  some (s0)

def f_Profile_forthPiece (μ : mM) (h0 : Nat) (x1 : Int32) (x2 : Int32) : Option (Option Nat) :=
  ((mrc μ (some h0) 9).bind fun a => f_Profile_gridFor μ a (6 : Int32) x1).bind fun q1 =>
  if q1 = none then
    if x2 = 0 then
      (mfA μ (some h0) [9] 5).bind fun v3 =>
      f_Profile_forthPiece_37 μ h0 v3
    else
      (mfA μ (some h0) [9] 6).bind fun v2 =>
      f_Profile_forthPiece_37 μ h0 v2
  else
    if x2 = 0 then
      f_Profile_forthPiece_21 μ h0 q1
    else
      f_Profile_forthPiece_21 μ h0 none

