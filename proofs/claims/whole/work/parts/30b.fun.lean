-- W ColourLinkerModel.run(I)V
def f_Mo_run_292 (h0 : Nat) (μ : mM) : Option (mM) :=
  some (μ)

def f_Mo_run_267 (h0 : Nat) (μ : mM) : Option (mM) :=
  f_Mo_run_292 h0 μ

def f_Mo_run_203 (h0 : Nat) (kx267 : mM → Option (mM)) : Nat → mM → Int32 → Int32 → Option (mM)
  | 0, _, _, _ => none
  | n + 1, μ, x1, x3 =>
  if (3 : Int32) ≤ x3 then
    kx267 μ
  else
    (mfA μ (some h0) [11] 18).bind fun v30 =>
    (f_Mo_point μ x3).bind fun q31 =>
    (f_Mo_point μ x3).bind fun q32 =>
    (mfA μ (some h0) [11] 19).bind fun v33 =>
    (mgJ μ (v33) x3).bind fun v34 =>
    (mfA μ (some h0) [11] 15).bind fun v35 =>
    (mgI μ (v35) x1).bind fun v36 =>
    (mfA μ (some h0) [11] 14).bind fun v37 =>
    (mgI μ (v37) x1).bind fun v38 =>
    (f_Mo_near μ (((q32).toInt64 - v34) * ((32768 : Int64) - (v36).toInt64)) ((32768 : Int64) - (v38).toInt64)).bind fun q39 =>
    (f_Mo_clip μ ((q31).toInt64 - q39)).bind fun q40 =>
    (msJ μ (v30) x3 q40).bind fun m41 =>
    f_Mo_run_203 h0 kx267 n m41 x1 (x3 + (1 : Int32))

def f_Mo_run_198 (h0 : Nat) (μ : mM) : Option (mM) :=
  f_Mo_run_292 h0 μ

def f_Mo_run_152 (h0 : Nat) (kx198 : mM → Option (mM)) : Nat → mM → Int32 → Int32 → Int32 → Option (mM)
  | 0, _, _, _, _ => none
  | n + 1, μ, x1, x2, x3 =>
  if (3 : Int32) ≤ x3 then
    kx198 μ
  else
    (mfA μ (some h0) [11] 18).bind fun v21 =>
    (mfA μ (some h0) [11] 19).bind fun v22 =>
    (mgJ μ (v22) x3).bind fun v23 =>
    ((mrc μ (some h0) 11).bind fun a => f_Mo_white μ a x2 x3).bind fun q24 =>
    (mfA μ (some h0) [11] 14).bind fun v25 =>
    (mgI μ (v25) x1).bind fun v26 =>
    ((mrc μ (some h0) 11).bind fun a => f_Mo_white μ a v26 x3).bind fun q27 =>
    (f_Mo_clipNear μ (v23 * (q24).toInt64) ((q27).toInt64)).bind fun q28 =>
    (msJ μ (v21) x3 q28).bind fun m29 =>
    f_Mo_run_152 h0 kx198 n m29 x1 x2 (x3 + (1 : Int32))

def f_Mo_run_32 (h0 : Nat) (μ : mM) (x1 : Int32) (x2 : Int32) : Option (mM) :=
  (mfA μ (some h0) [11] 12).bind fun v7 =>
  (mgI μ (v7) x1).bind fun v8 =>
  if v8 = 1 then
    ((mrc μ (some h0) 11).bind fun a => f_Mo_curves a μ x2 (0 : Int32)).bind fun q9 =>
    f_Mo_run_292 h0 q9
  else
  if v8 = 2 then
    ((mrc μ (some h0) 11).bind fun a => f_Mo_matrix a μ x2).bind fun q10 =>
    f_Mo_run_292 h0 q10
  else
  if v8 = 3 then
    (mfA μ (some h0) [11] 14).bind fun v11 =>
    (mgI μ (v11) x1).bind fun v12 =>
    ((mrc μ (some h0) 11).bind fun a => f_Mo_data μ a x2 v12).bind fun q13 =>
    ((mrc μ (some h0) 11).bind fun a => f_Mo_lattice a μ x2 q13).bind fun q14 =>
    f_Mo_run_292 h0 q14
  else
  if v8 = 4 then
    ((mrc μ (some h0) 11).bind fun a => f_Mo_spread a μ x2).bind fun q15 =>
    f_Mo_run_292 h0 q15
  else
  if v8 = 5 then
    ((mrc μ (some h0) 11).bind fun a => f_Mo_toLab a μ).bind fun q16 =>
    f_Mo_run_292 h0 q16
  else
  if v8 = 6 then
    ((mrc μ (some h0) 11).bind fun a => f_Mo_toXyz a μ).bind fun q17 =>
    f_Mo_run_292 h0 q17
  else
  if v8 = 7 then
    f_Mo_run_152 h0 (fun μ => f_Mo_run_198 h0 μ) 4096 μ x1 x2 (0 : Int32)
  else
  if v8 = 8 then
    f_Mo_run_203 h0 (fun μ => f_Mo_run_267 h0 μ) 4096 μ x1 (0 : Int32)
  else
  if v8 = 9 then
    ((mrc μ (some h0) 11).bind fun a => f_Mo_gather a μ x2).bind fun q18 =>
    f_Mo_run_292 h0 q18
  else
  if v8 = 10 then
    ((mrc μ (some h0) 11).bind fun a => f_Mo_matrixBack a μ x2).bind fun q19 =>
    f_Mo_run_292 h0 q19
  else
  ((mrc μ (some h0) 11).bind fun a => f_Mo_curves a μ x2 (1 : Int32)).bind fun q20 =>
  f_Mo_run_292 h0 q20

def f_Mo_run_9 (h0 : Nat) (kx32 : mM → Int32 → Int32 → Option (mM)) : Nat → mM → Int32 → Int32 → Int32 → Option (mM)
  | 0, _, _, _, _ => none
  | n + 1, μ, x1, x2, x3 =>
  if (3 : Int32) ≤ x3 then
    kx32 μ x1 x2
  else
    (mfA μ (some h0) [11] 19).bind fun v3 =>
    (mfA μ (some h0) [11] 18).bind fun v4 =>
    (mgJ μ (v4) x3).bind fun v5 =>
    (msJ μ (v3) x3 v5).bind fun m6 =>
    f_Mo_run_9 h0 kx32 n m6 x1 x2 (x3 + (1 : Int32))

def f_Mo_run (h0 : Nat) (μ : mM) (x1 : Int32) : Option (mM) :=
  (mfA μ (some h0) [11] 13).bind fun v1 =>
  (mgI μ (v1) x1).bind fun v2 =>
  f_Mo_run_9 h0 (fun μ y1 y2 => f_Mo_run_32 h0 μ y1 y2) 4096 μ x1 v2 (0 : Int32)

-- W ColourLinkerModel.blackLevel(II)J
def f_Mo_blackLevel_75 (h0 : Nat) (μ : mM) (x3 : Int32) : Option (Int64 × mM) :=
  (mpI μ (some h0) [11] 16 x3).bind fun m9 =>
  (mfA m9 (some h0) [11] 18).bind fun v10 =>
  (mgJ m9 (v10) (1 : Int32)).bind fun v11 =>
  some (v11, m9)

def f_Mo_blackLevel_54 (h0 : Nat) (kx75 : mM → Int32 → Option (Int64 × mM)) : Nat → mM → Int32 → Int32 → Option (Int64 × mM)
  | 0, _, _, _ => none
  | n + 1, μ, x3, x4 =>
  (mfI μ (some h0) [11] 16).bind fun v7 =>
  if v7 ≤ x4 then
    kx75 μ x3
  else
    ((mrc μ (some h0) 11).bind fun a => f_Mo_run a μ x4).bind fun q8 =>
    f_Mo_blackLevel_54 h0 kx75 n q8 x3 (x4 + (1 : Int32))

def f_Mo_blackLevel_51 (h0 : Nat) (μ : mM) (x3 : Int32) : Option (Int64 × mM) :=
  f_Mo_blackLevel_54 h0 (fun μ y3 => f_Mo_blackLevel_75 h0 μ y3) 4096 μ x3 x3

def f_Mo_blackLevel_31 (h0 : Nat) (kx51 : mM → Int32 → Option (Int64 × mM)) : Nat → mM → Int32 → Int32 → Option (Int64 × mM)
  | 0, _, _, _ => none
  | n + 1, μ, x3, x4 =>
  if (3 : Int32) ≤ x4 then
    kx51 μ x3
  else
    (mfA μ (some h0) [11] 18).bind fun v5 =>
    (msJ μ (v5) x4 (0 : Int64)).bind fun m6 =>
    f_Mo_blackLevel_31 h0 kx51 n m6 x3 (x4 + (1 : Int32))

def f_Mo_blackLevel_28 (h0 : Nat) (μ : mM) (x3 : Int32) : Option (Int64 × mM) :=
  f_Mo_blackLevel_31 h0 (fun μ y3 => f_Mo_blackLevel_51 h0 μ y3) 4096 μ x3 (0 : Int32)

def f_Mo_blackLevel (h0 : Nat) (μ : mM) (x1 : Int32) (x2 : Int32) : Option (Int64 × mM) :=
  (mfI μ (some h0) [11] 16).bind fun v1 =>
  ((mrc μ (some h0) 11).bind fun a => f_Mo_forth a μ x1 x2).bind fun q2 =>
  ((mrc q2 (some h0) 11).bind fun a => f_Mo_lab q2 a x1).bind fun q3 =>
  if q3 = 0 then
    f_Mo_blackLevel_28 h0 q2 v1
  else
    ((mrc q2 (some h0) 11).bind fun a => f_Mo_put a q2 (6 : Int32) x1 (0 : Int32) (0 : Int32)).bind fun q4 =>
    f_Mo_blackLevel_28 h0 q4 v1

-- W ColourLinkerModel.refusal(IIIZ)I
def f_Mo_refusal_249 (h0 : Nat) (μ : mM) (s0 : Int32) : Option (Int32 × mM) :=
  some (s0, μ)

def f_Mo_refusal_243 (h0 : Nat) (μ : mM) : Option (Int32 × mM) :=
  f_Mo_refusal_249 h0 μ (-7 : Int32)

def f_Mo_refusal_201 (h0 : Nat) (μ : mM) (s0 : Int32) : Option (Int32 × mM) :=
  some (s0, μ)

def f_Mo_refusal_200 (h0 : Nat) (μ : mM) : Option (Int32 × mM) :=
  f_Mo_refusal_201 h0 μ (0 : Int32)

def f_Mo_refusal_195 (h0 : Nat) (μ : mM) : Option (Int32 × mM) :=
  f_Mo_refusal_201 h0 μ (-7 : Int32)

def f_Mo_refusal_154 (h0 : Nat) (μ : mM) (x1 : Int32) (x2 : Int32) (x3 : Int32) (x4 : Int32) : Option (Int32 × mM) :=
  if x3 = (3 : Int32) then
    ((mrc μ (some h0) 11).bind fun a => f_Mo_otherWhite μ a x1 x2).bind fun q14 =>
    if q14 = 0 then
      f_Mo_refusal_200 h0 μ
    else
      ((mrc μ (some h0) 11).bind fun a => f_Mo_white μ a x2 (0 : Int32)).bind fun q15 =>
      if q15 = 0 then
        f_Mo_refusal_195 h0 μ
      else
        ((mrc μ (some h0) 11).bind fun a => f_Mo_white μ a x2 (1 : Int32)).bind fun q16 =>
        if q16 = 0 then
          f_Mo_refusal_195 h0 μ
        else
          ((mrc μ (some h0) 11).bind fun a => f_Mo_white μ a x2 (2 : Int32)).bind fun q17 =>
          if q17 = 0 then
            f_Mo_refusal_195 h0 μ
          else
            f_Mo_refusal_200 h0 μ
  else
    if x4 = 0 then
      some ((0 : Int32), μ)
    else
      ((mrc μ (some h0) 11).bind fun a => f_Mo_blackLevel a μ x1 x3).bind fun q12 =>
      ((mrc q12.2 (some h0) 11).bind fun a => f_Mo_blackLevel a q12.2 x2 x3).bind fun q13 =>
      if (32768 : Int64) ≤ q12.1 then
        f_Mo_refusal_243 h0 q13.2
      else
        if q13.1 < (32768 : Int64) then
          f_Mo_refusal_249 h0 q13.2 (0 : Int32)
        else
          f_Mo_refusal_243 h0 q13.2

def f_Mo_refusal_134 (h0 : Nat) (μ : mM) (x1 : Int32) (x2 : Int32) (x3 : Int32) (x4 : Int32) : Option (Int32 × mM) :=
  ((mrc μ (some h0) 11).bind fun a => f_Mo_single μ a x2).bind fun q10 =>
  if q10 = 0 then
    f_Mo_refusal_154 h0 μ x1 x2 x3 x4
  else
    ((mrc μ (some h0) 11).bind fun a => f_Mo_rising μ a x2 (1 : Int32)).bind fun q11 =>
    if q11 = 0 then
      some ((-6 : Int32), μ)
    else
      f_Mo_refusal_154 h0 μ x1 x2 x3 x4

def f_Mo_refusal_131 (h0 : Nat) (μ : mM) : Option (Int32 × mM) :=
  some ((-6 : Int32), μ)

def f_Mo_refusal_104 (h0 : Nat) (μ : mM) (x1 : Int32) (x2 : Int32) (x3 : Int32) (x4 : Int32) : Option (Int32 × mM) :=
  ((mrc μ (some h0) 11).bind fun a => f_Mo_rising μ a x2 (2 : Int32)).bind fun q7 =>
  if q7 = 0 then
    f_Mo_refusal_131 h0 μ
  else
    ((mrc μ (some h0) 11).bind fun a => f_Mo_rising μ a x2 (3 : Int32)).bind fun q8 =>
    if q8 = 0 then
      f_Mo_refusal_131 h0 μ
    else
      ((mrc μ (some h0) 11).bind fun a => f_Mo_rising μ a x2 (4 : Int32)).bind fun q9 =>
      if q9 = 0 then
        f_Mo_refusal_131 h0 μ
      else
        f_Mo_refusal_134 h0 μ x1 x2 x3 x4

def f_Mo_refusal_67 (h0 : Nat) (μ : mM) (x1 : Int32) (x2 : Int32) (x3 : Int32) (x4 : Int32) (x5 : Int32) : Option (Int32 × mM) :=
  if x5 = 0 then
    f_Mo_refusal_134 h0 μ x1 x2 x3 x4
  else
    ((mrc μ (some h0) 11).bind fun a => f_Mo_takeMatrix a μ x2).bind fun q5 =>
    ((mrc q5 (some h0) 11).bind fun a => f_Mo_determinant q5 a).bind fun q6 =>
    if q6 ≤ (-16777216 : Int64) then
      f_Mo_refusal_104 h0 q5 x1 x2 x3 x4
    else
      if (16777216 : Int64) ≤ q6 then
        f_Mo_refusal_104 h0 q5 x1 x2 x3 x4
      else
        some ((-5 : Int32), q5)

def f_Mo_refusal_49 (h0 : Nat) (μ : mM) (x1 : Int32) (x2 : Int32) (x3 : Int32) (x4 : Int32) (s0 : Int32) : Option (Int32 × mM) :=
  if s0 = 0 then
    f_Mo_refusal_67 h0 μ x1 x2 x3 x4 s0
  else
    ((mrc μ (some h0) 11).bind fun a => f_Mo_shaped μ a x2).bind fun q4 =>
    if q4 = 0 then
      some ((-4 : Int32), μ)
    else
      f_Mo_refusal_67 h0 μ x1 x2 x3 x4 s0

def f_Mo_refusal_48 (h0 : Nat) (μ : mM) (x1 : Int32) (x2 : Int32) (x3 : Int32) (x4 : Int32) : Option (Int32 × mM) :=
  f_Mo_refusal_49 h0 μ x1 x2 x3 x4 (0 : Int32)

def f_Mo_refusal_9 (h0 : Nat) (μ : mM) : Option (Int32 × mM) :=
  some ((-2 : Int32), μ)

def f_Mo_refusal (h0 : Nat) (μ : mM) (x1 : Int32) (x2 : Int32) (x3 : Int32) (x4 : Int32) : Option (Int32 × mM) :=
  if x3 < 0 then
    f_Mo_refusal_9 h0 μ
  else
    if x3 ≤ (3 : Int32) then
      ((mrc μ (some h0) 11).bind fun a => f_Mo_part μ a x2 (2 : Int32)).bind fun q1 =>
      if q1 = (1 : Int32) then
        some ((-3 : Int32), μ)
      else
        ((mrc μ (some h0) 11).bind fun a => f_Mo_single μ a x2).bind fun q2 =>
        if q2 = 0 then
          ((mrc μ (some h0) 11).bind fun a => f_Mo_grid μ a x2 (9 : Int32) x3).bind fun q3 =>
          if q3 = 0 then
            f_Mo_refusal_49 h0 μ x1 x2 x3 x4 (1 : Int32)
          else
            f_Mo_refusal_48 h0 μ x1 x2 x3 x4
        else
          f_Mo_refusal_48 h0 μ x1 x2 x3 x4
    else
      f_Mo_refusal_9 h0 μ

