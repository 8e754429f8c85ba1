def ps_byt (k : Nat) : List Int32 := match k with
  | 197 => [116, 111, 110, 103, 117, 101]
  | 207 => [107, 105, 110, 100]
  | 212 => [102, 117, 110]
  | 217 => [102, 101, 97, 116, 117, 114, 101]
  | 222 => [108, 101, 116, 116, 101, 114, 115]
  | 227 => [115, 111, 117, 110, 100]
  | 232 => [112, 97, 116, 116, 101, 114, 110]
  | 237 => [119, 111, 114, 100]
  | 241 => [108, 105, 110]
  | 246 => [109, 101, 97, 110]
  | 251 => [116, 104, 105, 110, 103]
  | 256 => [102, 97, 99, 116]
  | 261 => [99, 111, 115, 116]
  | 266 => [104, 97, 115]
  | 271 => [111, 102]
  | 276 => [97, 103, 114, 101, 101]
  | 281 => [103, 105, 118, 101]
  | 541 => [97, 110, 100]
  | 546 => [111, 114]
  | 551 => [105, 102]
  | 556 => [110, 111, 116]
  | 561 => [97, 108, 108]
  | 566 => [115, 111, 109, 101]
  | 571 => [105, 115]
  | _ => []
def lc_flat : List Cond := flatC (Jvm.Cond.and given_1 narrow_1)
set_option maxRecDepth 100000 in
theorem ps1 : ∀ x ∈ ps_strs, Cond.exactly (.string RX13 x.1) "java/lang/String" ∈ lc_flat := by decide +kernel
set_option maxRecDepth 100000 in
theorem ps2 : ∀ x ∈ ps_strs, Cond.eq (.field (.string RX13 x.1) "java/lang/String" "coder" "B") (.int 0) ∈ lc_flat := by decide +kernel
set_option maxRecDepth 100000 in
theorem ps3 : ∀ x ∈ ps_strs, Cond.arrayOf (.field (.string RX13 x.1) "java/lang/String" "value" "[B") .byte ∈ lc_flat := by decide +kernel
set_option maxRecDepth 100000 in
theorem ps4 : ∀ x ∈ ps_strs, Cond.eq (.length (.field (.string RX13 x.1) "java/lang/String" "value" "[B")) (.int (Int32.ofNat x.2.2)) ∈ lc_flat := by decide +kernel
set_option maxRecDepth 100000 in
theorem ps5 : ∀ x ∈ ps_strs, ∀ j, j < x.2.2 → Cond.eq (.elem (.field (.string RX13 x.1) "java/lang/String" "value" "[B") (.int (Int32.ofNat j))) (.int ((ps_byt x.1).getD j 0)) ∈ lc_flat := by decide +kernel
set_option maxRecDepth 100000 in
theorem ps6 : ∀ x ∈ ps_strs, Cond.stringRef RX13 x.1 x.2.1 ∈ lw_tbl := by decide +kernel
set_option maxRecDepth 100000 in
theorem ps7 : ∀ x ∈ ps_strs, x.2.2 < 2 ^ 31 := by decide +kernel
