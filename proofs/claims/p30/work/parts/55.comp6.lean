theorem c_X4_setRange (l : Launch) (G : HG) (A : Nat → Prop) (hp : HP) (sz : Nat) (hA : ∀ q, sz ≤ q → A q) (hO : Ow A hp) (r9 : Nat) (q : Nat → Nat) (hq : ∀ j, j < 14 → q j ≤ 25) (w9 : Nat) (hw9 : w9 < 5) (lo9 hi9 : Nat) (hlo : lo9 ≤ 25) (hhi : hi9 ≤ 25) (hr9 : hp r9 = some (rcE q)) : Met l yX4_setRange [.code yX4_setRange cX4_setRange 5 none] { frames := 0, cells := 0, slots := 0, locals := 0 } (va_Pc [.ref r9, .int (nI w9), .int (nI lo9), .int (nI hi9)] (WP G A sz hp)) (va_Qv (fun hp1 => hp1 = va_up hp r9 (some (rcE (slR q w9 lo9 hi9)))) (WB G A) A) 0 0 A := by
  match w9, hw9 with
  | 0, _ => exact c_X4_setRange_0 l G A hp sz hA hO r9 q hq lo9 hi9 hlo hhi hr9
  | 1, _ => exact c_X4_setRange_1 l G A hp sz hA hO r9 q hq lo9 hi9 hlo hhi hr9
  | 2, _ => exact c_X4_setRange_2 l G A hp sz hA hO r9 q hq lo9 hi9 hlo hhi hr9
  | 3, _ => exact c_X4_setRange_3 l G A hp sz hA hO r9 q hq lo9 hi9 hlo hhi hr9
  | 4, _ => exact c_X4_setRange_4 l G A hp sz hA hO r9 q hq lo9 hi9 hlo hhi hr9
