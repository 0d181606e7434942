-- N ColourLinker$Buffer.plainForm()[I
def f_Buffer_plainForm_197 (h0 : Nat) (μ : mM) (z w : Nat) (x2 : Option Nat) (x4 : Int32) : Option ((Option Nat) × mM × Nat × Nat) :=
  (msI μ (x2) (0 : Int32) (x4 / (256 : Int32))).bind fun m25 =>
  (msI m25 (x2) (1 : Int32) (x4 - x4 / (256 : Int32) * (256 : Int32))).bind fun m26 =>
  (f_Arrays_copyOf m26 z w x2 x4).bind fun q27 => mmT z w q27.2.2.1 q27.2.2.2 <|
  some (q27.1, q27.2.1, q27.2.2.1, q27.2.2.2)

def f_Buffer_plainForm_191 (h0 : Nat) (k : mM → Nat → Nat → (Option Nat) → (Option Nat) → Int32 → Int32 → Int32 → Option ((Option Nat) × mM × Nat × Nat)) (kx197 : mM → Nat → Nat → (Option Nat) → Int32 → Option ((Option Nat) × mM × Nat × Nat)) (μ : mM) (z w : Nat) (x1 : Option Nat) (x2 : Option Nat) (x3 : Int32) (x4 : Int32) (x5 : Int32) : Option ((Option Nat) × mM × Nat × Nat) :=
  k μ z w x1 x2 x3 x4 (x5 + (1 : Int32))

def f_Buffer_plainForm_169 (h0 : Nat) (k : mM → Nat → Nat → (Option Nat) → (Option Nat) → Int32 → Int32 → Int32 → Option ((Option Nat) × mM × Nat × Nat)) (kx197 : mM → Nat → Nat → (Option Nat) → Int32 → Option ((Option Nat) × mM × Nat × Nat)) (μ : mM) (z w : Nat) (x1 : Option Nat) (x2 : Option Nat) (x3 : Int32) (x4 : Int32) (x5 : Int32) (x7 : Int32) (x8 : Int32) : Option ((Option Nat) × mM × Nat × Nat) :=
  (msI μ (x2) x3 x5).bind fun m22 =>
  (msI m22 (x2) (x3 + (1 : Int32)) x8).bind fun m23 =>
  (msI m23 (x2) (x3 + (2 : Int32)) x7).bind fun m24 =>
  f_Buffer_plainForm_191 h0 k kx197 m24 z w x1 x2 (x3 + (4 : Int32)) x4 x5

def f_Buffer_plainForm_81 (h0 : Nat) (kx197 : mM → Nat → Nat → (Option Nat) → Int32 → Option ((Option Nat) × mM × Nat × Nat)) : Nat → mM → Nat → Nat → (Option Nat) → (Option Nat) → Int32 → Int32 → Int32 → Option ((Option Nat) × mM × Nat × Nat)
  | 0, _, _, _, _, _, _, _, _ => none
  | n + 1, μ, z, w, x1, x2, x3, x4, x5 =>
  if (12 : Int32) < x5 then
    kx197 μ z w x2 x4
  else
    (mgI μ (x1) x5).bind fun v12 =>
    if v12 = 0 then
      f_Buffer_plainForm_191 h0 (f_Buffer_plainForm_81 h0 kx197 n) kx197 μ z w x1 x2 x3 x4 x5
    else
      (mfA μ (some h0) [1] 0).bind fun v13 =>
      (mgI μ (x1) x5).bind fun v14 =>
      (mgI μ (v13) (v14 + (1 : Int32))).bind fun v15 =>
      (mfA μ (some h0) [1] 0).bind fun v16 =>
      (mgI μ (x1) x5).bind fun v17 =>
      (mgI μ (v16) (v17 + (2 : Int32))).bind fun v18 =>
      ((mrc μ (some h0) 1).bind fun a => f_Buffer_findData μ a x2 x3 v15 v18).bind fun q19 =>
      if q19 = 0 then
        (mfA μ (some h0) [1] 0).bind fun v20 =>
        (mcopy μ v20 v15 x2 x4 v18).bind fun q21 =>
        f_Buffer_plainForm_169 h0 (f_Buffer_plainForm_81 h0 kx197 n) kx197 q21 z w x1 x2 x3 ((((x4 + v18) + (3 : Int32)) / (4 : Int32)) * (4 : Int32)) x5 v18 x4
      else
        f_Buffer_plainForm_169 h0 (f_Buffer_plainForm_81 h0 kx197 n) kx197 μ z w x1 x2 x3 x4 x5 v18 q19

def f_Buffer_plainForm_43 (h0 : Nat) (μ : mM) (z w : Nat) (x1 : Option Nat) : Option ((Option Nat) × mM × Nat × Nat) :=
  (mna μ z 0 (256 : Int32)).bind fun m7 => mmT z w (z + 1) (w + ((256 : Int32)).toNatClampNeg) <|
  (mfA m7 (some h0) [1] 0).bind fun v8 =>
  (mcopy m7 v8 (0 : Int32) (some z) (0 : Int32) (8 : Int32)).bind fun q9 =>
  (mfA q9 (some h0) [1] 0).bind fun v10 =>
  (mgI q9 (v10) (6 : Int32)).bind fun v11 =>
  f_Buffer_plainForm_81 h0 (fun μ z w y2 y4 => f_Buffer_plainForm_197 h0 μ z w y2 y4) 4096 q9 (z + 1) (w + ((256 : Int32)).toNatClampNeg) x1 (some z) (8 : Int32) ((8 : Int32) + ((4 : Int32) * v11)) (1 : Int32)

def f_Buffer_plainForm_7 (h0 : Nat) (kx43 : mM → Nat → Nat → (Option Nat) → Option ((Option Nat) × mM × Nat × Nat)) : Nat → mM → Nat → Nat → (Option Nat) → Int32 → Option ((Option Nat) × mM × Nat × Nat)
  | 0, _, _, _, _, _ => none
  | n + 1, μ, z, w, x1, x2 =>
  (mfA μ (some h0) [1] 0).bind fun v2 =>
  (mgI μ (v2) (6 : Int32)).bind fun v3 =>
  if v3 ≤ x2 then
    kx43 μ z w x1
  else
    (mfA μ (some h0) [1] 0).bind fun v4 =>
    (mgI μ (v4) ((8 : Int32) + ((4 : Int32) * x2))).bind fun v5 =>
    (msI μ (x1) v5 ((8 : Int32) + ((4 : Int32) * x2))).bind fun m6 =>
    f_Buffer_plainForm_7 h0 kx43 n m6 z w x1 (x2 + (1 : Int32))

def f_Buffer_plainForm (h0 : Nat) (μ : mM) (z w : Nat) : Option ((Option Nat) × mM × Nat × Nat) :=
  mmT z w z w <|
  (mna μ z 0 (13 : Int32)).bind fun m1 => mmT z w (z + 1) (w + ((13 : Int32)).toNatClampNeg) <|
  f_Buffer_plainForm_7 h0 (fun μ z w y1 => f_Buffer_plainForm_43 h0 μ z w y1) 4096 m1 (z + 1) (w + ((13 : Int32)).toNatClampNeg) (some z) (0 : Int32)

-- R ColourLinker$Buffer.countElements()I
def f_Buffer_countElements_86 (μ : mM) (h0 : Nat) (x1 : Int32) : Option (Int32) :=
  some (x1)

def f_Buffer_countElements_78 (μ : mM) (h0 : Nat) (k : Int32 → Int32 → Option (Int32)) (kx86 : Int32 → Option (Int32)) (x2 : Int32) (s0 : Int32) (s1 : Int32) : Option (Int32) :=
  k (s0 + s1) (x2 + (1 : Int32))

def f_Buffer_countElements_68 (μ : mM) (h0 : Nat) (k : Int32 → Int32 → Option (Int32)) (kx86 : Int32 → Option (Int32)) (x1 : Int32) (x2 : Int32) (x3 : Int32) : Option (Int32) :=
  if x3 = 0 then
    f_Buffer_countElements_78 μ h0 k kx86 x2 x1 (1 : Int32)
  else
    f_Buffer_countElements_78 μ h0 k kx86 x2 x1 (0 : Int32)

def f_Buffer_countElements_61 (μ : mM) (h0 : Nat) (k : Int32 → Int32 → Int32 → Int32 → Option (Int32)) (kx68 : Int32 → Int32 → Int32 → Option (Int32)) (x1 : Int32) (x2 : Int32) (x4 : Int32) (s0 : Int32) : Option (Int32) :=
  k x1 x2 s0 (x4 + (1 : Int32))

def f_Buffer_countElements_56 (μ : mM) (h0 : Nat) (k : Int32 → Int32 → Int32 → Int32 → Option (Int32)) (kx68 : Int32 → Int32 → Int32 → Option (Int32)) (x1 : Int32) (x2 : Int32) (x4 : Int32) : Option (Int32) :=
  f_Buffer_countElements_61 μ h0 k kx68 x1 x2 x4 (1 : Int32)

def f_Buffer_countElements_20 (μ : mM) (h0 : Nat) (kx68 : Int32 → Int32 → Int32 → Option (Int32)) : Nat → Int32 → Int32 → Int32 → Int32 → Option (Int32)
  | 0, _, _, _, _ => none
  | n + 1, x1, x2, x3, x4 =>
  if x2 ≤ x4 then
    kx68 x1 x2 x3
  else
    if x3 = 0 then
      (mfA μ (some h0) [1] 0).bind fun v3 =>
      (mgI μ (v3) ((9 : Int32) + ((4 : Int32) * x4))).bind fun v4 =>
      (mfA μ (some h0) [1] 0).bind fun v5 =>
      (mgI μ (v5) ((9 : Int32) + ((4 : Int32) * x2))).bind fun v6 =>
      if v4 = v6 then
        f_Buffer_countElements_56 μ h0 (f_Buffer_countElements_20 μ h0 kx68 n) kx68 x1 x2 x4
      else
        f_Buffer_countElements_61 μ h0 (f_Buffer_countElements_20 μ h0 kx68 n) kx68 x1 x2 x4 (0 : Int32)
    else
      f_Buffer_countElements_56 μ h0 (f_Buffer_countElements_20 μ h0 kx68 n) kx68 x1 x2 x4

def f_Buffer_countElements_4 (μ : mM) (h0 : Nat) (kx86 : Int32 → Option (Int32)) : Nat → Int32 → Int32 → Option (Int32)
  | 0, _, _ => none
  | n + 1, x1, x2 =>
  (mfA μ (some h0) [1] 0).bind fun v1 =>
  (mgI μ (v1) (6 : Int32)).bind fun v2 =>
  if v2 ≤ x2 then
    kx86 x1
  else
    f_Buffer_countElements_20 μ h0 (fun y1 y2 y3 => f_Buffer_countElements_68 μ h0 (f_Buffer_countElements_4 μ h0 kx86 n) kx86 y1 y2 y3) 4096 x1 x2 (0 : Int32) (0 : Int32)

def f_Buffer_countElements (μ : mM) (h0 : Nat) : Option (Int32) :=
  f_Buffer_countElements_4 μ h0 (fun y1 => f_Buffer_countElements_86 μ h0 y1) 4096 (0 : Int32) (0 : Int32)

-- N ColourLinker$Curve.<init>([II)V
def f_Curve_init_80 (h0 : Nat) (μ : mM) (z w : Nat) : Option (mM × Nat × Nat) :=
  some (μ, z, w)

def f_Curve_init_48 (h0 : Nat) (kx80 : mM → Nat → Nat → Option (mM × Nat × Nat)) : Nat → mM → Nat → Nat → (Option Nat) → Int32 → Int32 → Option (mM × Nat × Nat)
  | 0, _, _, _, _, _, _ => none
  | n + 1, μ, z, w, x1, x2, x3 =>
  (mfA μ (some h0) [2] 1).bind fun v8 =>
  (ml μ (v8)).bind fun v9 =>
  if v9 ≤ x3 then
    kx80 μ z w
  else
    (mfA μ (some h0) [2] 1).bind fun v10 =>
    (f_CL_wordAt μ x1 ((x2 + (2 : Int32)) + ((2 : Int32) * x3))).bind fun q11 =>
    (msI μ (v10) x3 q11).bind fun m12 =>
    f_Curve_init_48 h0 kx80 n m12 z w x1 x2 (x3 + (1 : Int32))

def f_Curve_init_41 (h0 : Nat) (μ : mM) (z w : Nat) (x1 : Option Nat) (x2 : Int32) (s0 : Option Nat) (s1 : Int32) : Option (mM × Nat × Nat) :=
  (mna μ z 0 s1).bind fun m6 => mmV z w (z + 1) (w + (s1).toNatClampNeg) <|
  (mpA m6 (s0) [2] 1 (some z)).bind fun m7 =>
  f_Curve_init_48 h0 (fun μ z w => f_Curve_init_80 h0 μ z w) 4096 m7 (z + 1) (w + (s1).toNatClampNeg) x1 x2 (0 : Int32)

def f_Curve_init_21 (h0 : Nat) (μ : mM) (z w : Nat) (x1 : Option Nat) (x2 : Int32) (s0 : Option Nat) (s1 : Int32) : Option (mM × Nat × Nat) :=
  (mpI μ (s0) [2] 0 s1).bind fun m3 =>
  (mfI m3 (some h0) [2] 0).bind fun v4 =>
  if v4 ≤ 0 then
    (mgI m3 (x1) (x2 + (1 : Int32))).bind fun v5 =>
    f_Curve_init_41 h0 m3 z w x1 x2 (some h0) v5
  else
    f_Curve_init_41 h0 m3 z w x1 x2 (some h0) (2 : Int32)

def f_Curve_init (h0 : Nat) (μ : mM) (z w : Nat) (x1 : Option Nat) (x2 : Int32) : Option (mM × Nat × Nat) :=
  mmV z w z w <|
  (mgI μ (x1) x2).bind fun v1 =>
  if v1 = (2 : Int32) then
    (mgI μ (x1) (x2 + (1 : Int32))).bind fun v2 =>
    f_Curve_init_21 h0 μ z w x1 x2 (some h0) v2
  else
    f_Curve_init_21 h0 μ z w x1 x2 (some h0) (0 : Int32)

-- N ColourLinker$Grid.<init>([II)V
def f_Grid_init (h0 : Nat) (μ : mM) (z w : Nat) (x1 : Option Nat) (x2 : Int32) : Option (mM × Nat × Nat) :=
  mmV z w z w <|
  ((some h0).bind fun a => f_Piece_init a μ (3 : Int32) (0 : Int32)).bind fun q1 =>
  (mna q1 z 0 (3 : Int32)).bind fun m2 => mmV z w (z + 1) (w + ((3 : Int32)).toNatClampNeg) <|
  (mpA m2 (some h0) [5] 5 (some z)).bind fun m3 =>
  (mpA m3 (some h0) [5] 2 x1).bind fun m4 =>
  (mpI m4 (some h0) [5] 3 (x2 + (2 : Int32))).bind fun m5 =>
  (mgI m5 (x1) (x2 + (1 : Int32))).bind fun v6 =>
  (mpI m5 (some h0) [5] 4 v6).bind fun m7 =>
  some (m7, (z + 1), (w + ((3 : Int32)).toNatClampNeg))

-- R ColourLinker$Curve.isStraight()Z
def f_Curve_isStraight_20 (μ : mM) (h0 : Nat) (s0 : Int32) : Option (Int32) :=
  (mz s0).bind fun v4 =>
  some (v4)

def f_Curve_isStraight_19 (μ : mM) (h0 : Nat) : Option (Int32) :=
  f_Curve_isStraight_20 μ h0 (0 : Int32)

def f_Curve_isStraight (μ : mM) (h0 : Nat) : Option (Int32) :=
  (mfI μ (some h0) [2] 0).bind fun v1 =>
  if v1 = 0 then
    (mfA μ (some h0) [2] 1).bind fun v2 =>
    (ml μ (v2)).bind fun v3 =>
    if v3 = 0 then
      f_Curve_isStraight_20 μ h0 (1 : Int32)
    else
      f_Curve_isStraight_19 μ h0 
  else
    f_Curve_isStraight_19 μ h0 

-- R ColourLinker$Curves.areStraight([LColourLinker$Curve;)Z
def f_Curves_areStraight_35 (μ : mM) (x1 : Int32) : Option (Int32) :=
  (mz x1).bind fun v4 =>
  some (v4)

def f_Curves_areStraight_28 (μ : mM) (k : (Option Nat) → Int32 → Int32 → Option (Int32)) (kx35 : Int32 → Option (Int32)) (x0 : Option Nat) (x2 : Int32) (s0 : Int32) : Option (Int32) :=
  k x0 s0 (x2 + (1 : Int32))

def f_Curves_areStraight_27 (μ : mM) (k : (Option Nat) → Int32 → Int32 → Option (Int32)) (kx35 : Int32 → Option (Int32)) (x0 : Option Nat) (x2 : Int32) : Option (Int32) :=
  f_Curves_areStraight_28 μ k kx35 x0 x2 (0 : Int32)

def f_Curves_areStraight_4 (μ : mM) (kx35 : Int32 → Option (Int32)) : Nat → (Option Nat) → Int32 → Int32 → Option (Int32)
  | 0, _, _, _ => none
  | n + 1, x0, x1, x2 =>
  (ml μ (x0)).bind fun v1 =>
  if v1 ≤ x2 then
    kx35 x1
  else
    if x1 = 0 then
      f_Curves_areStraight_27 μ (f_Curves_areStraight_4 μ kx35 n) kx35 x0 x2
    else
      (mgA μ (x0) x2).bind fun v2 =>
      ((mrc μ (v2) 2).bind fun a => f_Curve_isStraight μ a).bind fun q3 =>
      if q3 = 0 then
        f_Curves_areStraight_27 μ (f_Curves_areStraight_4 μ kx35 n) kx35 x0 x2
      else
        f_Curves_areStraight_28 μ (f_Curves_areStraight_4 μ kx35 n) kx35 x0 x2 (1 : Int32)

def f_Curves_areStraight (μ : mM) (x0 : Option Nat) : Option (Int32) :=
  f_Curves_areStraight_4 μ (fun y1 => f_Curves_areStraight_35 μ y1) 4096 x0 (1 : Int32) (0 : Int32)

-- W ColourLinker$Curves.<init>(I[LColourLinker$Curve;)V
def f_Curves_init (h0 : Nat) (μ : mM) (x1 : Int32) (x2 : Option Nat) : Option (mM) :=
  (f_Curves_areStraight μ x2).bind fun q1 =>
  ((some h0).bind fun a => f_Piece_init a μ x1 q1).bind fun q2 =>
  (mpA q2 (some h0) [3] 2 x2).bind fun m3 =>
  some (m3)

-- W ColourLinker$Gray.<init>(II)V
def f_Gray_init (h0 : Nat) (μ : mM) (x1 : Int32) (x2 : Int32) : Option (mM) :=
  ((some h0).bind fun a => f_Piece_init a μ x1 (0 : Int32)).bind fun q1 =>
  (mpI q1 (some h0) [4] 2 x2).bind fun m2 =>
  some (m2)

