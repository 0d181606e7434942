-- N ColourLinker.chainPassage(LColourLinker$Profile;LColourLinker$Profile;IZ)V
def f_CL_chainPassage_98 (h0 : Nat) (μ : mM) (z w : Nat) (x2 : Option Nat) (x3 : Int32) : Option (mM × Nat × Nat) :=
  ((mrc μ (x2) 9).bind fun a => f_Profile_backPiece μ a x3 (0 : Int32)).bind fun q14 =>
  ((mrc μ (some h0) 10).bind fun a => f_CL_chainPiece a μ q14).bind fun q15 =>
  ((mrc q15 (x2) 9).bind fun a => f_Profile_backPiece q15 a x3 (1 : Int32)).bind fun q16 =>
  ((mrc q15 (some h0) 10).bind fun a => f_CL_chainPiece a q15 q16).bind fun q17 =>
  some (q17, z, w)

def f_CL_chainPassage_95 (h0 : Nat) (μ : mM) (z w : Nat) (x2 : Option Nat) (x3 : Int32) (s0 : Option Nat) (s1 : Option Nat) : Option (mM × Nat × Nat) :=
  ((mrc μ (s0) 10).bind fun a => f_CL_chainPiece a μ s1).bind fun q13 =>
  f_CL_chainPassage_98 h0 q13 z w x2 x3

def f_CL_chainPassage_68 (h0 : Nat) (μ : mM) (z w : Nat) (x2 : Option Nat) (x3 : Int32) (x5 : Int32) : Option (mM × Nat × Nat) :=
  ((mrc μ (x2) 9).bind fun a => f_Profile_space μ a).bind fun q10 =>
  if x5 = q10 then
    f_CL_chainPassage_98 h0 μ z w x2 x3
  else
    if x5 = (1 : Int32) then
      (mfA μ (some h0) [10] 6).bind fun v12 =>
      f_CL_chainPassage_95 h0 μ z w x2 x3 (some h0) v12
    else
      (mfA μ (some h0) [10] 5).bind fun v11 =>
      f_CL_chainPassage_95 h0 μ z w x2 x3 (some h0) v11

def f_CL_chainPassage_56 (h0 : Nat) (μ : mM) (z w : Nat) (x2 : Option Nat) (x3 : Int32) (x6 : Option Nat) (s0 : Option Nat) (s1 : Option Nat) : Option (mM × Nat × Nat) :=
  ((mrc μ (s0) 10).bind fun a => f_CL_chainPiece a μ s1).bind fun q8 =>
  ((mrc q8 (some h0) 10).bind fun a => f_CL_chainPiece a q8 x6).bind fun q9 =>
  f_CL_chainPassage_68 h0 q9 z w x2 x3 (0 : Int32)

def f_CL_chainPassage (h0 : Nat) (μ : mM) (z w : Nat) (x1 : Option Nat) (x2 : Option Nat) (x3 : Int32) (x4 : Int32) : Option (mM × Nat × Nat) :=
  mmV z w z w <|
  ((mrc μ (x1) 9).bind fun a => f_Profile_forthPiece μ a x3 (0 : Int32)).bind fun q1 =>
  ((mrc μ (some h0) 10).bind fun a => f_CL_chainPiece a μ q1).bind fun q2 =>
  ((mrc q2 (x1) 9).bind fun a => f_Profile_forthPiece q2 a x3 (1 : Int32)).bind fun q3 =>
  ((mrc q2 (some h0) 10).bind fun a => f_CL_chainPiece a q2 q3).bind fun q4 =>
  ((mrc q4 (x1) 9).bind fun a => f_Profile_space q4 a).bind fun q5 =>
  (f_CL_adjustment q4 z w x1 x2 x3 x4).bind fun q6 => mmV z w q6.2.2.1 q6.2.2.2 <|
  if q6.1 = none then
    f_CL_chainPassage_68 h0 q6.2.1 q6.2.2.1 q6.2.2.2 x2 x3 q5
  else
    if q5 = (1 : Int32) then
      (mfA q6.2.1 (some h0) [10] 6).bind fun v7 =>
      f_CL_chainPassage_56 h0 q6.2.1 q6.2.2.1 q6.2.2.2 x2 x3 q6.1 (some h0) v7
    else
      f_CL_chainPassage_56 h0 q6.2.1 q6.2.2.1 q6.2.2.2 x2 x3 q6.1 (some h0) none

-- N ColourLinker$Link.<init>(LColourLinker$Link;LColourLinker$Profile;LColourLinker$Profile;IZ[LColourLinker$Piece;I)V
def f_Link_init_98 (h0 : Nat) (μ : mM) (z w : Nat) : Option (mM × Nat × Nat) :=
  some (μ, z, w)

def f_Link_init_73 (h0 : Nat) (kx98 : mM → Nat → Nat → Option (mM × Nat × Nat)) : Nat → mM → Nat → Nat → (Option Nat) → Int32 → Int32 → Option (mM × Nat × Nat)
  | 0, _, _, _, _, _, _ => none
  | n + 1, μ, z, w, x6, x7, x8 =>
  if x7 ≤ x8 then
    kx98 μ z w
  else
    (mfA μ (some h0) [7] 6).bind fun v12 =>
    (mgA μ (x6) x8).bind fun v13 =>
    (msA μ (v12) x8 v13).bind fun m14 =>
    f_Link_init_73 h0 kx98 n m14 z w x6 x7 (x8 + (1 : Int32))

def f_Link_init_58 (h0 : Nat) (μ : mM) (z w : Nat) (x6 : Option Nat) (x7 : Int32) (s0 : Option Nat) (s1 : Option Nat) : Option (mM × Nat × Nat) :=
  (mpA μ (s0) [7] 5 s1).bind fun m9 =>
  (mna m9 z 5 x7).bind fun m10 => mmV z w (z + 1) (w + (x7).toNatClampNeg) <|
  (mpA m10 (some h0) [7] 6 (some z)).bind fun m11 =>
  f_Link_init_73 h0 (fun μ z w => f_Link_init_98 h0 μ z w) 4096 m11 (z + 1) (w + (x7).toNatClampNeg) x6 x7 (0 : Int32)

def f_Link_init (h0 : Nat) (μ : mM) (z w : Nat) (x1 : Option Nat) (x2 : Option Nat) (x3 : Option Nat) (x4 : Int32) (x5 : Int32) (x6 : Option Nat) (x7 : Int32) : Option (mM × Nat × Nat) :=
  mmV z w z w <|
  (mpJ μ (some h0) [7] 7 (-1 : Int64)).bind fun m1 =>
  (mpJ m1 (some h0) [7] 8 (-1 : Int64)).bind fun m2 =>
  (mpA m2 (some h0) [7] 0 x1).bind fun m3 =>
  (mpA m3 (some h0) [7] 1 x2).bind fun m4 =>
  (mpA m4 (some h0) [7] 2 x3).bind fun m5 =>
  (mpI m5 (some h0) [7] 3 x4).bind fun m6 =>
  (mpZ m6 (some h0) [7] 4 x5).bind fun m7 =>
  if x1 = none then
    f_Link_init_58 h0 m7 z w x6 x7 (some h0) x2
  else
    (mfA m7 (x1) [7] 5).bind fun v8 =>
    f_Link_init_58 h0 m7 z w x6 x7 (some h0) v8

-- N ColourLinker.join(LColourLinker$Link;LColourLinker$Profile;LColourLinker$Profile;IZ)I
def f_CL_join_26 (h0 : Nat) (μ : mM) (z w : Nat) (x1 : Option Nat) (x2 : Option Nat) (x3 : Option Nat) (x4 : Int32) (s0 : Int32) : Option (Int32 × mM × Nat × Nat) :=
  (f_CL_refusal μ x2 x3 x4 s0).bind fun q1 =>
  if q1 = 0 then
    ((mrc μ (some h0) 10).bind fun a => f_CL_findMade μ a x1 x2 x3 x4 s0).bind fun q2 =>
    if q2 = (-1 : Int32) then
      (mpI μ (some h0) [10] 8 (0 : Int32)).bind fun m3 =>
      ((mrc m3 (some h0) 10).bind fun a => f_CL_chainLink a m3 x1).bind fun q4 =>
      ((mrc q4 (some h0) 10).bind fun a => f_CL_chainPassage a q4 z w x2 x3 x4 s0).bind fun q5 => mmT z w q5.2.1 q5.2.2 <|
      (mfI q5.1 (some h0) [10] 8).bind fun v6 =>
      if v6 ≤ (24 : Int32) then
        (mfI q5.1 (some h0) [10] 4).bind fun v7 =>
        if v7 < (16 : Int32) then
          (mfA q5.1 (some h0) [10] 3).bind fun v8 =>
          (mfI q5.1 (some h0) [10] 4).bind fun v9 =>
          (mnew q5.1 q5.2.1 7 [.null, .null, .null, .int 0, .int 0, .null, .null, .long 0, .long 0]).bind fun m10 => mmT q5.2.1 q5.2.2 (q5.2.1 + 1) (q5.2.2 + 9) <|
          (mfA m10 (some h0) [10] 7).bind fun v11 =>
          (mfI m10 (some h0) [10] 8).bind fun v12 =>
          ((some q5.2.1).bind fun a => f_Link_init a m10 (q5.2.1 + 1) (q5.2.2 + 9) x1 x2 x3 x4 s0 v11 v12).bind fun q13 => mmT (q5.2.1 + 1) (q5.2.2 + 9) q13.2.1 q13.2.2 <|
          (msA q13.1 (v8) v9 (some q5.2.1)).bind fun m14 =>
          (mfI m14 (some h0) [10] 4).bind fun v15 =>
          (mpI m14 (some h0) [10] 4 (v15 + (1 : Int32))).bind fun m16 =>
          (mfI m16 (some h0) [10] 4).bind fun v17 =>
          some ((v17 - (1 : Int32)), m16, q13.2.1, q13.2.2)
        else
          some ((-8 : Int32), q5.1, q5.2.1, q5.2.2)
      else
        some ((-9 : Int32), q5.1, q5.2.1, q5.2.2)
    else
      some (q2, μ, z, w)
  else
    some (q1, μ, z, w)

def f_CL_join_25 (h0 : Nat) (μ : mM) (z w : Nat) (x1 : Option Nat) (x2 : Option Nat) (x3 : Option Nat) (x4 : Int32) : Option (Int32 × mM × Nat × Nat) :=
  f_CL_join_26 h0 μ z w x1 x2 x3 x4 (0 : Int32)

def f_CL_join_8 (h0 : Nat) (μ : mM) (z w : Nat) : Option (Int32 × mM × Nat × Nat) :=
  some ((-1 : Int32), μ, z, w)

def f_CL_join (h0 : Nat) (μ : mM) (z w : Nat) (x1 : Option Nat) (x2 : Option Nat) (x3 : Option Nat) (x4 : Int32) (x5 : Int32) : Option (Int32 × mM × Nat × Nat) :=
  mmT z w z w <|
  if x2 = none then
    f_CL_join_8 h0 μ z w
  else
    if x3 = none then
      f_CL_join_8 h0 μ z w
    else
      if x5 = 0 then
        f_CL_join_25 h0 μ z w x1 x2 x3 x4
      else
        if x4 = (3 : Int32) then
          f_CL_join_25 h0 μ z w x1 x2 x3 x4
        else
          f_CL_join_26 h0 μ z w x1 x2 x3 x4 (1 : Int32)

-- N ColourLinker.link(IIIZ)I
def f_CL_link (h0 : Nat) (μ : mM) (z w : Nat) (x1 : Int32) (x2 : Int32) (x3 : Int32) (x4 : Int32) : Option (Int32 × mM × Nat × Nat) :=
  mmT z w z w <|
  ((mrc μ (some h0) 10).bind fun a => f_CL_profileAt μ a x1).bind fun q1 =>
  ((mrc μ (some h0) 10).bind fun a => f_CL_profileAt μ a x2).bind fun q2 =>
  ((mrc μ (some h0) 10).bind fun a => f_CL_join a μ z w none q1 q2 x3 x4).bind fun q3 => mmT z w q3.2.2.1 q3.2.2.2 <|
  some (q3.1, q3.2.1, q3.2.2.1, q3.2.2.2)

-- R ColourLinkerModel.single(I)Z
def f_Mo_single_15 (μ : mM) (h0 : Nat) (s0 : Int32) : Option (Int32) :=
  (mz s0).bind fun v2 =>
  some (v2)

def f_Mo_single (μ : mM) (h0 : Nat) (x1 : Int32) : Option (Int32) :=
  ((mrc μ (some h0) 11).bind fun a => f_Mo_part μ a x1 (3 : Int32)).bind fun q1 =>
  if q1 = (1 : Int32) then
    f_Mo_single_15 μ h0 (1 : Int32)
  else
    f_Mo_single_15 μ h0 (0 : Int32)

-- R ColourLinkerModel.grid(III)I
def f_Mo_grid_43 (μ : mM) (h0 : Nat) (s0 : Int32) : Option (Int32) :=
  some (s0)

def f_Mo_grid_11 (μ : mM) (h0 : Nat) (x1 : Int32) (x2 : Int32) (s0 : Int32) (s1 : Int32) : Option (Int32) :=
  ((mrc μ (some h0) 11).bind fun a => f_Mo_entry μ a x1 (s0 + s1)).bind fun q1 =>
  if q1 ≤ 0 then
    ((mrc μ (some h0) 11).bind fun a => f_Mo_entry μ a x1 x2).bind fun q2 =>
    if q2 ≤ 0 then
      f_Mo_grid_43 μ h0 (0 : Int32)
    else
      f_Mo_grid_43 μ h0 x2
  else
    f_Mo_grid_43 μ h0 (s0 + s1)

def f_Mo_grid (μ : mM) (h0 : Nat) (x1 : Int32) (x2 : Int32) (x3 : Int32) : Option (Int32) :=
  if x3 = (3 : Int32) then
    f_Mo_grid_11 μ h0 x1 x2 x2 (1 : Int32)
  else
    f_Mo_grid_11 μ h0 x1 x2 x2 x3

-- R ColourLinkerModel.lab(I)Z
def f_Mo_lab_15 (μ : mM) (h0 : Nat) (s0 : Int32) : Option (Int32) :=
  (mz s0).bind fun v2 =>
  some (v2)

def f_Mo_lab (μ : mM) (h0 : Nat) (x1 : Int32) : Option (Int32) :=
  ((mrc μ (some h0) 11).bind fun a => f_Mo_part μ a x1 (4 : Int32)).bind fun q1 =>
  if q1 = (1 : Int32) then
    f_Mo_lab_15 μ h0 (1 : Int32)
  else
    f_Mo_lab_15 μ h0 (0 : Int32)

-- R ColourLinkerModel.shaped(I)Z
def f_Mo_shaped_49 (μ : mM) (h0 : Nat) (s0 : Int32) : Option (Int32) :=
  (mz s0).bind fun v6 =>
  some (v6)

def f_Mo_shaped_48 (μ : mM) (h0 : Nat) : Option (Int32) :=
  f_Mo_shaped_49 μ h0 (0 : Int32)

def f_Mo_shaped (μ : mM) (h0 : Nat) (x1 : Int32) : Option (Int32) :=
  ((mrc μ (some h0) 11).bind fun a => f_Mo_entry μ a x1 (2 : Int32)).bind fun q1 =>
  if q1 ≤ 0 then
    f_Mo_shaped_48 μ h0 
  else
    ((mrc μ (some h0) 11).bind fun a => f_Mo_entry μ a x1 (3 : Int32)).bind fun q2 =>
    if q2 ≤ 0 then
      f_Mo_shaped_48 μ h0 
    else
      ((mrc μ (some h0) 11).bind fun a => f_Mo_entry μ a x1 (4 : Int32)).bind fun q3 =>
      if q3 ≤ 0 then
        f_Mo_shaped_48 μ h0 
      else
        ((mrc μ (some h0) 11).bind fun a => f_Mo_entry μ a x1 (5 : Int32)).bind fun q4 =>
        if q4 ≤ 0 then
          f_Mo_shaped_48 μ h0 
        else
          ((mrc μ (some h0) 11).bind fun a => f_Mo_lab μ a x1).bind fun q5 =>
          if q5 = 0 then
            f_Mo_shaped_49 μ h0 (1 : Int32)
          else
            f_Mo_shaped_48 μ h0 

-- W ColourLinkerModel.takeMatrix(I)V
def f_Mo_takeMatrix_61 (h0 : Nat) (μ : mM) : Option (mM) :=
  some (μ)

def f_Mo_takeMatrix_54 (h0 : Nat) (k : mM → Int32 → Int32 → Int32 → Option (mM)) (kx61 : mM → Option (mM)) (μ : mM) (x1 : Int32) (x2 : Int32) (x3 : Int32) (s0 : Option Nat) (s1 : Int32) (s2 : Int64) : Option (mM) :=
  (msJ μ (s0) s1 s2).bind fun m4 =>
  k m4 x1 x2 (x3 + (1 : Int32))

def f_Mo_takeMatrix_9 (h0 : Nat) (kx61 : mM → Option (mM)) : Nat → mM → Int32 → Int32 → Int32 → Option (mM)
  | 0, _, _, _, _ => none
  | n + 1, μ, x1, x2, x3 =>
  if (9 : Int32) ≤ x3 then
    kx61 μ
  else
    ((mrc μ (some h0) 11).bind fun a => f_Mo_word μ a x1 ((x2 + (2 : Int32)) + ((2 : Int32) * x3))).bind fun q2 =>
    (mfA μ (some h0) [11] 20).bind fun v3 =>
    if q2 ≤ (32767 : Int32) then
      f_Mo_takeMatrix_54 h0 (f_Mo_takeMatrix_9 h0 kx61 n) kx61 μ x1 x2 x3 v3 x3 ((q2).toInt64)
    else
      f_Mo_takeMatrix_54 h0 (f_Mo_takeMatrix_9 h0 kx61 n) kx61 μ x1 x2 x3 v3 x3 (((q2 - (65536 : Int32))).toInt64)

def f_Mo_takeMatrix (h0 : Nat) (μ : mM) (x1 : Int32) : Option (mM) :=
  ((mrc μ (some h0) 11).bind fun a => f_Mo_data μ a x1 (5 : Int32)).bind fun q1 =>
  f_Mo_takeMatrix_9 h0 (fun μ => f_Mo_takeMatrix_61 h0 μ) 4096 μ x1 q1 (0 : Int32)

