def ps_byt (k : Nat) : List Int32 := match k with
  | 197 => [116, 111, 110, 103, 117, 101]
  | 207 => [107, 105, 110, 100]
  | 212 => [102, 117, 110]
  | 217 => [102, 101, 97, 116, 117, 114, 101]
  | 222 => [108, 101, 116, 116, 101, 114, 115]
  | 227 => [115, 111, 117, 110, 100]
  | 232 => [112, 97, 116, 116, 101, 114, 110]
  | 237 => [119, 111, 114, 100]
  | 241 => [108, 105, 110]
  | 246 => [109, 101, 97, 110]
  | 251 => [116, 104, 105, 110, 103]
  | 256 => [102, 97, 99, 116]
  | 261 => [99, 111, 115, 116]
  | 266 => [104, 97, 115]
  | 271 => [111, 102]
  | 276 => [97, 103, 114, 101, 101]
  | 281 => [103, 105, 118, 101]
  | 541 => [97, 110, 100]
  | 546 => [111, 114]
  | 551 => [105, 102]
  | 556 => [110, 111, 116]
  | 561 => [97, 108, 108]
  | 566 => [115, 111, 109, 101]
  | 571 => [105, 115]
  | _ => []
theorem lc_l {a b : Cond} {args : Array Value} {s : State} (h : (Cond.and a b).before args s = true) : a.before args s = true := by
  rw [Cond.before_and, Bool.and_eq_true] at h
  exact h.1
theorem lc_r {a b : Cond} {args : Array Value} {s : State} (h : (Cond.and a b).before args s = true) : b.before args s = true := by
  rw [Cond.before_and, Bool.and_eq_true] at h
  exact h.2
theorem nw1 {args : Array Value} {s : State} (h : narrow_1.before args s = true) : (Cond.exactly (.string "TongueHouseModel" 197) "java/lang/String").before args s = true := lc_l (lc_l (lc_l (lc_r (lc_l (lc_l (lc_l (lc_r (h))))))))
theorem nw2 {args : Array Value} {s : State} (h : narrow_1.before args s = true) : (Cond.eq (.field (.string "TongueHouseModel" 197) "java/lang/String" "coder" "B") (.int 0)).before args s = true := lc_l (lc_r (lc_l (lc_l (lc_r (lc_l (lc_l (lc_l (lc_r (h)))))))))
theorem nw3 {args : Array Value} {s : State} (h : narrow_1.before args s = true) : (Cond.arrayOf (.field (.string "TongueHouseModel" 197) "java/lang/String" "value" "[B") .byte).before args s = true := lc_r (lc_r (lc_l (lc_l (lc_r (lc_l (lc_l (lc_l (lc_r (h)))))))))
theorem nw4 {args : Array Value} {s : State} (h : narrow_1.before args s = true) : (Cond.eq (.length (.field (.string "TongueHouseModel" 197) "java/lang/String" "value" "[B")) (.int 6)).before args s = true := lc_l (lc_l (lc_r (lc_l (lc_r (lc_l (lc_l (lc_l (lc_r (h)))))))))
theorem nw5 {args : Array Value} {s : State} (h : narrow_1.before args s = true) : (Cond.eq (.elem (.field (.string "TongueHouseModel" 197) "java/lang/String" "value" "[B") (.int 0)) (.int 116)).before args s = true := lc_r (lc_l (lc_r (lc_l (lc_r (lc_l (lc_l (lc_l (lc_r (h)))))))))
theorem nw6 {args : Array Value} {s : State} (h : narrow_1.before args s = true) : (Cond.eq (.elem (.field (.string "TongueHouseModel" 197) "java/lang/String" "value" "[B") (.int 1)) (.int 111)).before args s = true := lc_l (lc_r (lc_r (lc_l (lc_r (lc_l (lc_l (lc_l (lc_r (h)))))))))
theorem nw7 {args : Array Value} {s : State} (h : narrow_1.before args s = true) : (Cond.eq (.elem (.field (.string "TongueHouseModel" 197) "java/lang/String" "value" "[B") (.int 2)) (.int 110)).before args s = true := lc_r (lc_r (lc_r (lc_l (lc_r (lc_l (lc_l (lc_l (lc_r (h)))))))))
theorem nw8 {args : Array Value} {s : State} (h : narrow_1.before args s = true) : (Cond.eq (.elem (.field (.string "TongueHouseModel" 197) "java/lang/String" "value" "[B") (.int 3)) (.int 103)).before args s = true := lc_l (lc_l (lc_r (lc_r (lc_l (lc_l (lc_l (lc_r (h))))))))
theorem nw9 {args : Array Value} {s : State} (h : narrow_1.before args s = true) : (Cond.eq (.elem (.field (.string "TongueHouseModel" 197) "java/lang/String" "value" "[B") (.int 4)) (.int 117)).before args s = true := lc_l (lc_r (lc_l (lc_r (lc_r (lc_l (lc_l (lc_l (lc_r (h)))))))))
theorem nw10 {args : Array Value} {s : State} (h : narrow_1.before args s = true) : (Cond.eq (.elem (.field (.string "TongueHouseModel" 197) "java/lang/String" "value" "[B") (.int 5)) (.int 101)).before args s = true := lc_r (lc_r (lc_l (lc_r (lc_r (lc_l (lc_l (lc_l (lc_r (h)))))))))
theorem nw11 {args : Array Value} {s : State} (h : narrow_1.before args s = true) : (Cond.exactly (.string "TongueHouseModel" 207) "java/lang/String").before args s = true := lc_l (lc_l (lc_r (lc_r (lc_r (lc_l (lc_l (lc_l (lc_r (h)))))))))
theorem nw12 {args : Array Value} {s : State} (h : narrow_1.before args s = true) : (Cond.eq (.field (.string "TongueHouseModel" 207) "java/lang/String" "coder" "B") (.int 0)).before args s = true := lc_r (lc_l (lc_r (lc_r (lc_r (lc_l (lc_l (lc_l (lc_r (h)))))))))
theorem nw13 {args : Array Value} {s : State} (h : narrow_1.before args s = true) : (Cond.arrayOf (.field (.string "TongueHouseModel" 207) "java/lang/String" "value" "[B") .byte).before args s = true := lc_l (lc_r (lc_r (lc_r (lc_r (lc_l (lc_l (lc_l (lc_r (h)))))))))
theorem nw14 {args : Array Value} {s : State} (h : narrow_1.before args s = true) : (Cond.eq (.length (.field (.string "TongueHouseModel" 207) "java/lang/String" "value" "[B")) (.int 4)).before args s = true := lc_r (lc_r (lc_r (lc_r (lc_r (lc_l (lc_l (lc_l (lc_r (h)))))))))
theorem nw15 {args : Array Value} {s : State} (h : narrow_1.before args s = true) : (Cond.eq (.elem (.field (.string "TongueHouseModel" 207) "java/lang/String" "value" "[B") (.int 0)) (.int 107)).before args s = true := lc_l (lc_l (lc_l (lc_l (lc_r (lc_l (lc_l (lc_r (h))))))))
theorem nw16 {args : Array Value} {s : State} (h : narrow_1.before args s = true) : (Cond.eq (.elem (.field (.string "TongueHouseModel" 207) "java/lang/String" "value" "[B") (.int 1)) (.int 105)).before args s = true := lc_l (lc_r (lc_l (lc_l (lc_l (lc_r (lc_l (lc_l (lc_r (h)))))))))
theorem nw17 {args : Array Value} {s : State} (h : narrow_1.before args s = true) : (Cond.eq (.elem (.field (.string "TongueHouseModel" 207) "java/lang/String" "value" "[B") (.int 2)) (.int 110)).before args s = true := lc_r (lc_r (lc_l (lc_l (lc_l (lc_r (lc_l (lc_l (lc_r (h)))))))))
theorem nw18 {args : Array Value} {s : State} (h : narrow_1.before args s = true) : (Cond.eq (.elem (.field (.string "TongueHouseModel" 207) "java/lang/String" "value" "[B") (.int 3)) (.int 100)).before args s = true := lc_l (lc_l (lc_r (lc_l (lc_l (lc_r (lc_l (lc_l (lc_r (h)))))))))
theorem nw19 {args : Array Value} {s : State} (h : narrow_1.before args s = true) : (Cond.exactly (.string "TongueHouseModel" 212) "java/lang/String").before args s = true := lc_r (lc_l (lc_r (lc_l (lc_l (lc_r (lc_l (lc_l (lc_r (h)))))))))
theorem nw20 {args : Array Value} {s : State} (h : narrow_1.before args s = true) : (Cond.eq (.field (.string "TongueHouseModel" 212) "java/lang/String" "coder" "B") (.int 0)).before args s = true := lc_l (lc_r (lc_r (lc_l (lc_l (lc_r (lc_l (lc_l (lc_r (h)))))))))
theorem nw21 {args : Array Value} {s : State} (h : narrow_1.before args s = true) : (Cond.arrayOf (.field (.string "TongueHouseModel" 212) "java/lang/String" "value" "[B") .byte).before args s = true := lc_r (lc_r (lc_r (lc_l (lc_l (lc_r (lc_l (lc_l (lc_r (h)))))))))
theorem nw22 {args : Array Value} {s : State} (h : narrow_1.before args s = true) : (Cond.eq (.length (.field (.string "TongueHouseModel" 212) "java/lang/String" "value" "[B")) (.int 3)).before args s = true := lc_l (lc_l (lc_r (lc_l (lc_r (lc_l (lc_l (lc_r (h))))))))
theorem nw23 {args : Array Value} {s : State} (h : narrow_1.before args s = true) : (Cond.eq (.elem (.field (.string "TongueHouseModel" 212) "java/lang/String" "value" "[B") (.int 0)) (.int 102)).before args s = true := lc_l (lc_r (lc_l (lc_r (lc_l (lc_r (lc_l (lc_l (lc_r (h)))))))))
theorem nw24 {args : Array Value} {s : State} (h : narrow_1.before args s = true) : (Cond.eq (.elem (.field (.string "TongueHouseModel" 212) "java/lang/String" "value" "[B") (.int 1)) (.int 117)).before args s = true := lc_r (lc_r (lc_l (lc_r (lc_l (lc_r (lc_l (lc_l (lc_r (h)))))))))
theorem nw25 {args : Array Value} {s : State} (h : narrow_1.before args s = true) : (Cond.eq (.elem (.field (.string "TongueHouseModel" 212) "java/lang/String" "value" "[B") (.int 2)) (.int 110)).before args s = true := lc_l (lc_l (lc_r (lc_r (lc_l (lc_r (lc_l (lc_l (lc_r (h)))))))))
theorem nw26 {args : Array Value} {s : State} (h : narrow_1.before args s = true) : (Cond.exactly (.string "TongueHouseModel" 217) "java/lang/String").before args s = true := lc_r (lc_l (lc_r (lc_r (lc_l (lc_r (lc_l (lc_l (lc_r (h)))))))))
theorem nw27 {args : Array Value} {s : State} (h : narrow_1.before args s = true) : (Cond.eq (.field (.string "TongueHouseModel" 217) "java/lang/String" "coder" "B") (.int 0)).before args s = true := lc_l (lc_r (lc_r (lc_r (lc_l (lc_r (lc_l (lc_l (lc_r (h)))))))))
theorem nw28 {args : Array Value} {s : State} (h : narrow_1.before args s = true) : (Cond.arrayOf (.field (.string "TongueHouseModel" 217) "java/lang/String" "value" "[B") .byte).before args s = true := lc_r (lc_r (lc_r (lc_r (lc_l (lc_r (lc_l (lc_l (lc_r (h)))))))))
theorem nw29 {args : Array Value} {s : State} (h : narrow_1.before args s = true) : (Cond.eq (.length (.field (.string "TongueHouseModel" 217) "java/lang/String" "value" "[B")) (.int 7)).before args s = true := lc_l (lc_l (lc_l (lc_r (lc_r (lc_l (lc_l (lc_r (h))))))))
theorem nw30 {args : Array Value} {s : State} (h : narrow_1.before args s = true) : (Cond.eq (.elem (.field (.string "TongueHouseModel" 217) "java/lang/String" "value" "[B") (.int 0)) (.int 102)).before args s = true := lc_l (lc_r (lc_l (lc_l (lc_r (lc_r (lc_l (lc_l (lc_r (h)))))))))
theorem nw31 {args : Array Value} {s : State} (h : narrow_1.before args s = true) : (Cond.eq (.elem (.field (.string "TongueHouseModel" 217) "java/lang/String" "value" "[B") (.int 1)) (.int 101)).before args s = true := lc_r (lc_r (lc_l (lc_l (lc_r (lc_r (lc_l (lc_l (lc_r (h)))))))))
theorem nw32 {args : Array Value} {s : State} (h : narrow_1.before args s = true) : (Cond.eq (.elem (.field (.string "TongueHouseModel" 217) "java/lang/String" "value" "[B") (.int 2)) (.int 97)).before args s = true := lc_l (lc_l (lc_r (lc_l (lc_r (lc_r (lc_l (lc_l (lc_r (h)))))))))
theorem nw33 {args : Array Value} {s : State} (h : narrow_1.before args s = true) : (Cond.eq (.elem (.field (.string "TongueHouseModel" 217) "java/lang/String" "value" "[B") (.int 3)) (.int 116)).before args s = true := lc_r (lc_l (lc_r (lc_l (lc_r (lc_r (lc_l (lc_l (lc_r (h)))))))))
theorem nw34 {args : Array Value} {s : State} (h : narrow_1.before args s = true) : (Cond.eq (.elem (.field (.string "TongueHouseModel" 217) "java/lang/String" "value" "[B") (.int 4)) (.int 117)).before args s = true := lc_l (lc_r (lc_r (lc_l (lc_r (lc_r (lc_l (lc_l (lc_r (h)))))))))
theorem nw35 {args : Array Value} {s : State} (h : narrow_1.before args s = true) : (Cond.eq (.elem (.field (.string "TongueHouseModel" 217) "java/lang/String" "value" "[B") (.int 5)) (.int 114)).before args s = true := lc_r (lc_r (lc_r (lc_l (lc_r (lc_r (lc_l (lc_l (lc_r (h)))))))))
theorem nw36 {args : Array Value} {s : State} (h : narrow_1.before args s = true) : (Cond.eq (.elem (.field (.string "TongueHouseModel" 217) "java/lang/String" "value" "[B") (.int 6)) (.int 101)).before args s = true := lc_l (lc_l (lc_l (lc_r (lc_r (lc_r (lc_l (lc_l (lc_r (h)))))))))
theorem nw37 {args : Array Value} {s : State} (h : narrow_1.before args s = true) : (Cond.exactly (.string "TongueHouseModel" 222) "java/lang/String").before args s = true := lc_r (lc_l (lc_l (lc_r (lc_r (lc_r (lc_l (lc_l (lc_r (h)))))))))
theorem nw38 {args : Array Value} {s : State} (h : narrow_1.before args s = true) : (Cond.eq (.field (.string "TongueHouseModel" 222) "java/lang/String" "coder" "B") (.int 0)).before args s = true := lc_l (lc_r (lc_l (lc_r (lc_r (lc_r (lc_l (lc_l (lc_r (h)))))))))
theorem nw39 {args : Array Value} {s : State} (h : narrow_1.before args s = true) : (Cond.arrayOf (.field (.string "TongueHouseModel" 222) "java/lang/String" "value" "[B") .byte).before args s = true := lc_r (lc_r (lc_l (lc_r (lc_r (lc_r (lc_l (lc_l (lc_r (h)))))))))
theorem nw40 {args : Array Value} {s : State} (h : narrow_1.before args s = true) : (Cond.eq (.length (.field (.string "TongueHouseModel" 222) "java/lang/String" "value" "[B")) (.int 7)).before args s = true := lc_l (lc_l (lc_r (lc_r (lc_r (lc_r (lc_l (lc_l (lc_r (h)))))))))
theorem nw41 {args : Array Value} {s : State} (h : narrow_1.before args s = true) : (Cond.eq (.elem (.field (.string "TongueHouseModel" 222) "java/lang/String" "value" "[B") (.int 0)) (.int 108)).before args s = true := lc_r (lc_l (lc_r (lc_r (lc_r (lc_r (lc_l (lc_l (lc_r (h)))))))))
theorem nw42 {args : Array Value} {s : State} (h : narrow_1.before args s = true) : (Cond.eq (.elem (.field (.string "TongueHouseModel" 222) "java/lang/String" "value" "[B") (.int 1)) (.int 101)).before args s = true := lc_l (lc_r (lc_r (lc_r (lc_r (lc_r (lc_l (lc_l (lc_r (h)))))))))
theorem nw43 {args : Array Value} {s : State} (h : narrow_1.before args s = true) : (Cond.eq (.elem (.field (.string "TongueHouseModel" 222) "java/lang/String" "value" "[B") (.int 2)) (.int 116)).before args s = true := lc_r (lc_r (lc_r (lc_r (lc_r (lc_r (lc_l (lc_l (lc_r (h)))))))))
theorem nw44 {args : Array Value} {s : State} (h : narrow_1.before args s = true) : (Cond.eq (.elem (.field (.string "TongueHouseModel" 222) "java/lang/String" "value" "[B") (.int 3)) (.int 116)).before args s = true := lc_l (lc_l (lc_l (lc_l (lc_l (lc_r (lc_l (lc_r (h))))))))
theorem nw45 {args : Array Value} {s : State} (h : narrow_1.before args s = true) : (Cond.eq (.elem (.field (.string "TongueHouseModel" 222) "java/lang/String" "value" "[B") (.int 4)) (.int 101)).before args s = true := lc_l (lc_r (lc_l (lc_l (lc_l (lc_l (lc_r (lc_l (lc_r (h)))))))))
theorem nw46 {args : Array Value} {s : State} (h : narrow_1.before args s = true) : (Cond.eq (.elem (.field (.string "TongueHouseModel" 222) "java/lang/String" "value" "[B") (.int 5)) (.int 114)).before args s = true := lc_r (lc_r (lc_l (lc_l (lc_l (lc_l (lc_r (lc_l (lc_r (h)))))))))
theorem nw47 {args : Array Value} {s : State} (h : narrow_1.before args s = true) : (Cond.eq (.elem (.field (.string "TongueHouseModel" 222) "java/lang/String" "value" "[B") (.int 6)) (.int 115)).before args s = true := lc_l (lc_l (lc_r (lc_l (lc_l (lc_l (lc_r (lc_l (lc_r (h)))))))))
theorem nw48 {args : Array Value} {s : State} (h : narrow_1.before args s = true) : (Cond.exactly (.string "TongueHouseModel" 227) "java/lang/String").before args s = true := lc_r (lc_l (lc_r (lc_l (lc_l (lc_l (lc_r (lc_l (lc_r (h)))))))))
theorem nw49 {args : Array Value} {s : State} (h : narrow_1.before args s = true) : (Cond.eq (.field (.string "TongueHouseModel" 227) "java/lang/String" "coder" "B") (.int 0)).before args s = true := lc_l (lc_r (lc_r (lc_l (lc_l (lc_l (lc_r (lc_l (lc_r (h)))))))))
theorem nw50 {args : Array Value} {s : State} (h : narrow_1.before args s = true) : (Cond.arrayOf (.field (.string "TongueHouseModel" 227) "java/lang/String" "value" "[B") .byte).before args s = true := lc_r (lc_r (lc_r (lc_l (lc_l (lc_l (lc_r (lc_l (lc_r (h)))))))))
theorem nw51 {args : Array Value} {s : State} (h : narrow_1.before args s = true) : (Cond.eq (.length (.field (.string "TongueHouseModel" 227) "java/lang/String" "value" "[B")) (.int 5)).before args s = true := lc_l (lc_l (lc_r (lc_l (lc_l (lc_r (lc_l (lc_r (h))))))))
theorem nw52 {args : Array Value} {s : State} (h : narrow_1.before args s = true) : (Cond.eq (.elem (.field (.string "TongueHouseModel" 227) "java/lang/String" "value" "[B") (.int 0)) (.int 115)).before args s = true := lc_l (lc_r (lc_l (lc_r (lc_l (lc_l (lc_r (lc_l (lc_r (h)))))))))
theorem nw53 {args : Array Value} {s : State} (h : narrow_1.before args s = true) : (Cond.eq (.elem (.field (.string "TongueHouseModel" 227) "java/lang/String" "value" "[B") (.int 1)) (.int 111)).before args s = true := lc_r (lc_r (lc_l (lc_r (lc_l (lc_l (lc_r (lc_l (lc_r (h)))))))))
theorem nw54 {args : Array Value} {s : State} (h : narrow_1.before args s = true) : (Cond.eq (.elem (.field (.string "TongueHouseModel" 227) "java/lang/String" "value" "[B") (.int 2)) (.int 117)).before args s = true := lc_l (lc_l (lc_r (lc_r (lc_l (lc_l (lc_r (lc_l (lc_r (h)))))))))
theorem nw55 {args : Array Value} {s : State} (h : narrow_1.before args s = true) : (Cond.eq (.elem (.field (.string "TongueHouseModel" 227) "java/lang/String" "value" "[B") (.int 3)) (.int 110)).before args s = true := lc_r (lc_l (lc_r (lc_r (lc_l (lc_l (lc_r (lc_l (lc_r (h)))))))))
theorem nw56 {args : Array Value} {s : State} (h : narrow_1.before args s = true) : (Cond.eq (.elem (.field (.string "TongueHouseModel" 227) "java/lang/String" "value" "[B") (.int 4)) (.int 100)).before args s = true := lc_l (lc_r (lc_r (lc_r (lc_l (lc_l (lc_r (lc_l (lc_r (h)))))))))
theorem nw57 {args : Array Value} {s : State} (h : narrow_1.before args s = true) : (Cond.exactly (.string "TongueHouseModel" 232) "java/lang/String").before args s = true := lc_r (lc_r (lc_r (lc_r (lc_l (lc_l (lc_r (lc_l (lc_r (h)))))))))
theorem nw58 {args : Array Value} {s : State} (h : narrow_1.before args s = true) : (Cond.eq (.field (.string "TongueHouseModel" 232) "java/lang/String" "coder" "B") (.int 0)).before args s = true := lc_l (lc_l (lc_l (lc_r (lc_l (lc_r (lc_l (lc_r (h))))))))
theorem nw59 {args : Array Value} {s : State} (h : narrow_1.before args s = true) : (Cond.arrayOf (.field (.string "TongueHouseModel" 232) "java/lang/String" "value" "[B") .byte).before args s = true := lc_l (lc_r (lc_l (lc_l (lc_r (lc_l (lc_r (lc_l (lc_r (h)))))))))
theorem nw60 {args : Array Value} {s : State} (h : narrow_1.before args s = true) : (Cond.eq (.length (.field (.string "TongueHouseModel" 232) "java/lang/String" "value" "[B")) (.int 7)).before args s = true := lc_r (lc_r (lc_l (lc_l (lc_r (lc_l (lc_r (lc_l (lc_r (h)))))))))
theorem nw61 {args : Array Value} {s : State} (h : narrow_1.before args s = true) : (Cond.eq (.elem (.field (.string "TongueHouseModel" 232) "java/lang/String" "value" "[B") (.int 0)) (.int 112)).before args s = true := lc_l (lc_l (lc_r (lc_l (lc_r (lc_l (lc_r (lc_l (lc_r (h)))))))))
theorem nw62 {args : Array Value} {s : State} (h : narrow_1.before args s = true) : (Cond.eq (.elem (.field (.string "TongueHouseModel" 232) "java/lang/String" "value" "[B") (.int 1)) (.int 97)).before args s = true := lc_r (lc_l (lc_r (lc_l (lc_r (lc_l (lc_r (lc_l (lc_r (h)))))))))
theorem nw63 {args : Array Value} {s : State} (h : narrow_1.before args s = true) : (Cond.eq (.elem (.field (.string "TongueHouseModel" 232) "java/lang/String" "value" "[B") (.int 2)) (.int 116)).before args s = true := lc_l (lc_r (lc_r (lc_l (lc_r (lc_l (lc_r (lc_l (lc_r (h)))))))))
theorem nw64 {args : Array Value} {s : State} (h : narrow_1.before args s = true) : (Cond.eq (.elem (.field (.string "TongueHouseModel" 232) "java/lang/String" "value" "[B") (.int 3)) (.int 116)).before args s = true := lc_r (lc_r (lc_r (lc_l (lc_r (lc_l (lc_r (lc_l (lc_r (h)))))))))
theorem nw65 {args : Array Value} {s : State} (h : narrow_1.before args s = true) : (Cond.eq (.elem (.field (.string "TongueHouseModel" 232) "java/lang/String" "value" "[B") (.int 4)) (.int 101)).before args s = true := lc_l (lc_l (lc_r (lc_r (lc_l (lc_r (lc_l (lc_r (h))))))))
theorem nw66 {args : Array Value} {s : State} (h : narrow_1.before args s = true) : (Cond.eq (.elem (.field (.string "TongueHouseModel" 232) "java/lang/String" "value" "[B") (.int 5)) (.int 114)).before args s = true := lc_l (lc_r (lc_l (lc_r (lc_r (lc_l (lc_r (lc_l (lc_r (h)))))))))
theorem nw67 {args : Array Value} {s : State} (h : narrow_1.before args s = true) : (Cond.eq (.elem (.field (.string "TongueHouseModel" 232) "java/lang/String" "value" "[B") (.int 6)) (.int 110)).before args s = true := lc_r (lc_r (lc_l (lc_r (lc_r (lc_l (lc_r (lc_l (lc_r (h)))))))))
theorem nw68 {args : Array Value} {s : State} (h : narrow_1.before args s = true) : (Cond.exactly (.string "TongueHouseModel" 237) "java/lang/String").before args s = true := lc_l (lc_l (lc_r (lc_r (lc_r (lc_l (lc_r (lc_l (lc_r (h)))))))))
theorem nw69 {args : Array Value} {s : State} (h : narrow_1.before args s = true) : (Cond.eq (.field (.string "TongueHouseModel" 237) "java/lang/String" "coder" "B") (.int 0)).before args s = true := lc_r (lc_l (lc_r (lc_r (lc_r (lc_l (lc_r (lc_l (lc_r (h)))))))))
theorem nw70 {args : Array Value} {s : State} (h : narrow_1.before args s = true) : (Cond.arrayOf (.field (.string "TongueHouseModel" 237) "java/lang/String" "value" "[B") .byte).before args s = true := lc_l (lc_r (lc_r (lc_r (lc_r (lc_l (lc_r (lc_l (lc_r (h)))))))))
theorem nw71 {args : Array Value} {s : State} (h : narrow_1.before args s = true) : (Cond.eq (.length (.field (.string "TongueHouseModel" 237) "java/lang/String" "value" "[B")) (.int 4)).before args s = true := lc_r (lc_r (lc_r (lc_r (lc_r (lc_l (lc_r (lc_l (lc_r (h)))))))))
theorem nw72 {args : Array Value} {s : State} (h : narrow_1.before args s = true) : (Cond.eq (.elem (.field (.string "TongueHouseModel" 237) "java/lang/String" "value" "[B") (.int 0)) (.int 119)).before args s = true := lc_l (lc_l (lc_l (lc_l (lc_r (lc_r (lc_l (lc_r (h))))))))
theorem nw73 {args : Array Value} {s : State} (h : narrow_1.before args s = true) : (Cond.eq (.elem (.field (.string "TongueHouseModel" 237) "java/lang/String" "value" "[B") (.int 1)) (.int 111)).before args s = true := lc_l (lc_r (lc_l (lc_l (lc_l (lc_r (lc_r (lc_l (lc_r (h)))))))))
theorem nw74 {args : Array Value} {s : State} (h : narrow_1.before args s = true) : (Cond.eq (.elem (.field (.string "TongueHouseModel" 237) "java/lang/String" "value" "[B") (.int 2)) (.int 114)).before args s = true := lc_r (lc_r (lc_l (lc_l (lc_l (lc_r (lc_r (lc_l (lc_r (h)))))))))
theorem nw75 {args : Array Value} {s : State} (h : narrow_1.before args s = true) : (Cond.eq (.elem (.field (.string "TongueHouseModel" 237) "java/lang/String" "value" "[B") (.int 3)) (.int 100)).before args s = true := lc_l (lc_l (lc_r (lc_l (lc_l (lc_r (lc_r (lc_l (lc_r (h)))))))))
theorem nw76 {args : Array Value} {s : State} (h : narrow_1.before args s = true) : (Cond.exactly (.string "TongueHouseModel" 241) "java/lang/String").before args s = true := lc_r (lc_l (lc_r (lc_l (lc_l (lc_r (lc_r (lc_l (lc_r (h)))))))))
theorem nw77 {args : Array Value} {s : State} (h : narrow_1.before args s = true) : (Cond.eq (.field (.string "TongueHouseModel" 241) "java/lang/String" "coder" "B") (.int 0)).before args s = true := lc_l (lc_r (lc_r (lc_l (lc_l (lc_r (lc_r (lc_l (lc_r (h)))))))))
theorem nw78 {args : Array Value} {s : State} (h : narrow_1.before args s = true) : (Cond.arrayOf (.field (.string "TongueHouseModel" 241) "java/lang/String" "value" "[B") .byte).before args s = true := lc_r (lc_r (lc_r (lc_l (lc_l (lc_r (lc_r (lc_l (lc_r (h)))))))))
theorem nw79 {args : Array Value} {s : State} (h : narrow_1.before args s = true) : (Cond.eq (.length (.field (.string "TongueHouseModel" 241) "java/lang/String" "value" "[B")) (.int 3)).before args s = true := lc_l (lc_l (lc_r (lc_l (lc_r (lc_r (lc_l (lc_r (h))))))))
theorem nw80 {args : Array Value} {s : State} (h : narrow_1.before args s = true) : (Cond.eq (.elem (.field (.string "TongueHouseModel" 241) "java/lang/String" "value" "[B") (.int 0)) (.int 108)).before args s = true := lc_l (lc_r (lc_l (lc_r (lc_l (lc_r (lc_r (lc_l (lc_r (h)))))))))
theorem nw81 {args : Array Value} {s : State} (h : narrow_1.before args s = true) : (Cond.eq (.elem (.field (.string "TongueHouseModel" 241) "java/lang/String" "value" "[B") (.int 1)) (.int 105)).before args s = true := lc_r (lc_r (lc_l (lc_r (lc_l (lc_r (lc_r (lc_l (lc_r (h)))))))))
theorem nw82 {args : Array Value} {s : State} (h : narrow_1.before args s = true) : (Cond.eq (.elem (.field (.string "TongueHouseModel" 241) "java/lang/String" "value" "[B") (.int 2)) (.int 110)).before args s = true := lc_l (lc_l (lc_r (lc_r (lc_l (lc_r (lc_r (lc_l (lc_r (h)))))))))
theorem nw83 {args : Array Value} {s : State} (h : narrow_1.before args s = true) : (Cond.exactly (.string "TongueHouseModel" 246) "java/lang/String").before args s = true := lc_r (lc_l (lc_r (lc_r (lc_l (lc_r (lc_r (lc_l (lc_r (h)))))))))
theorem nw84 {args : Array Value} {s : State} (h : narrow_1.before args s = true) : (Cond.eq (.field (.string "TongueHouseModel" 246) "java/lang/String" "coder" "B") (.int 0)).before args s = true := lc_l (lc_r (lc_r (lc_r (lc_l (lc_r (lc_r (lc_l (lc_r (h)))))))))
theorem nw85 {args : Array Value} {s : State} (h : narrow_1.before args s = true) : (Cond.arrayOf (.field (.string "TongueHouseModel" 246) "java/lang/String" "value" "[B") .byte).before args s = true := lc_r (lc_r (lc_r (lc_r (lc_l (lc_r (lc_r (lc_l (lc_r (h)))))))))
theorem nw86 {args : Array Value} {s : State} (h : narrow_1.before args s = true) : (Cond.eq (.length (.field (.string "TongueHouseModel" 246) "java/lang/String" "value" "[B")) (.int 4)).before args s = true := lc_l (lc_l (lc_l (lc_r (lc_r (lc_r (lc_l (lc_r (h))))))))
theorem nw87 {args : Array Value} {s : State} (h : narrow_1.before args s = true) : (Cond.eq (.elem (.field (.string "TongueHouseModel" 246) "java/lang/String" "value" "[B") (.int 0)) (.int 109)).before args s = true := lc_l (lc_r (lc_l (lc_l (lc_r (lc_r (lc_r (lc_l (lc_r (h)))))))))
theorem nw88 {args : Array Value} {s : State} (h : narrow_1.before args s = true) : (Cond.eq (.elem (.field (.string "TongueHouseModel" 246) "java/lang/String" "value" "[B") (.int 1)) (.int 101)).before args s = true := lc_r (lc_r (lc_l (lc_l (lc_r (lc_r (lc_r (lc_l (lc_r (h)))))))))
theorem nw89 {args : Array Value} {s : State} (h : narrow_1.before args s = true) : (Cond.eq (.elem (.field (.string "TongueHouseModel" 246) "java/lang/String" "value" "[B") (.int 2)) (.int 97)).before args s = true := lc_l (lc_l (lc_r (lc_l (lc_r (lc_r (lc_r (lc_l (lc_r (h)))))))))
theorem nw90 {args : Array Value} {s : State} (h : narrow_1.before args s = true) : (Cond.eq (.elem (.field (.string "TongueHouseModel" 246) "java/lang/String" "value" "[B") (.int 3)) (.int 110)).before args s = true := lc_r (lc_l (lc_r (lc_l (lc_r (lc_r (lc_r (lc_l (lc_r (h)))))))))
theorem nw91 {args : Array Value} {s : State} (h : narrow_1.before args s = true) : (Cond.exactly (.string "TongueHouseModel" 251) "java/lang/String").before args s = true := lc_l (lc_r (lc_r (lc_l (lc_r (lc_r (lc_r (lc_l (lc_r (h)))))))))
theorem nw92 {args : Array Value} {s : State} (h : narrow_1.before args s = true) : (Cond.eq (.field (.string "TongueHouseModel" 251) "java/lang/String" "coder" "B") (.int 0)).before args s = true := lc_r (lc_r (lc_r (lc_l (lc_r (lc_r (lc_r (lc_l (lc_r (h)))))))))
theorem nw93 {args : Array Value} {s : State} (h : narrow_1.before args s = true) : (Cond.arrayOf (.field (.string "TongueHouseModel" 251) "java/lang/String" "value" "[B") .byte).before args s = true := lc_l (lc_l (lc_l (lc_r (lc_r (lc_r (lc_r (lc_l (lc_r (h)))))))))
theorem nw94 {args : Array Value} {s : State} (h : narrow_1.before args s = true) : (Cond.eq (.length (.field (.string "TongueHouseModel" 251) "java/lang/String" "value" "[B")) (.int 5)).before args s = true := lc_r (lc_l (lc_l (lc_r (lc_r (lc_r (lc_r (lc_l (lc_r (h)))))))))
theorem nw95 {args : Array Value} {s : State} (h : narrow_1.before args s = true) : (Cond.eq (.elem (.field (.string "TongueHouseModel" 251) "java/lang/String" "value" "[B") (.int 0)) (.int 116)).before args s = true := lc_l (lc_r (lc_l (lc_r (lc_r (lc_r (lc_r (lc_l (lc_r (h)))))))))
theorem nw96 {args : Array Value} {s : State} (h : narrow_1.before args s = true) : (Cond.eq (.elem (.field (.string "TongueHouseModel" 251) "java/lang/String" "value" "[B") (.int 1)) (.int 104)).before args s = true := lc_r (lc_r (lc_l (lc_r (lc_r (lc_r (lc_r (lc_l (lc_r (h)))))))))
theorem nw97 {args : Array Value} {s : State} (h : narrow_1.before args s = true) : (Cond.eq (.elem (.field (.string "TongueHouseModel" 251) "java/lang/String" "value" "[B") (.int 2)) (.int 105)).before args s = true := lc_l (lc_l (lc_r (lc_r (lc_r (lc_r (lc_r (lc_l (lc_r (h)))))))))
theorem nw98 {args : Array Value} {s : State} (h : narrow_1.before args s = true) : (Cond.eq (.elem (.field (.string "TongueHouseModel" 251) "java/lang/String" "value" "[B") (.int 3)) (.int 110)).before args s = true := lc_r (lc_l (lc_r (lc_r (lc_r (lc_r (lc_r (lc_l (lc_r (h)))))))))
theorem nw99 {args : Array Value} {s : State} (h : narrow_1.before args s = true) : (Cond.eq (.elem (.field (.string "TongueHouseModel" 251) "java/lang/String" "value" "[B") (.int 4)) (.int 103)).before args s = true := lc_l (lc_r (lc_r (lc_r (lc_r (lc_r (lc_r (lc_l (lc_r (h)))))))))
theorem nw100 {args : Array Value} {s : State} (h : narrow_1.before args s = true) : (Cond.exactly (.string "TongueHouseModel" 256) "java/lang/String").before args s = true := lc_r (lc_r (lc_r (lc_r (lc_r (lc_r (lc_r (lc_l (lc_r (h)))))))))
theorem nw101 {args : Array Value} {s : State} (h : narrow_1.before args s = true) : (Cond.eq (.field (.string "TongueHouseModel" 256) "java/lang/String" "coder" "B") (.int 0)).before args s = true := lc_l (lc_l (lc_l (lc_l (lc_l (lc_l (lc_r (lc_r (h))))))))
theorem nw102 {args : Array Value} {s : State} (h : narrow_1.before args s = true) : (Cond.arrayOf (.field (.string "TongueHouseModel" 256) "java/lang/String" "value" "[B") .byte).before args s = true := lc_l (lc_r (lc_l (lc_l (lc_l (lc_l (lc_l (lc_r (lc_r (h)))))))))
theorem nw103 {args : Array Value} {s : State} (h : narrow_1.before args s = true) : (Cond.eq (.length (.field (.string "TongueHouseModel" 256) "java/lang/String" "value" "[B")) (.int 4)).before args s = true := lc_r (lc_r (lc_l (lc_l (lc_l (lc_l (lc_l (lc_r (lc_r (h)))))))))
theorem nw104 {args : Array Value} {s : State} (h : narrow_1.before args s = true) : (Cond.eq (.elem (.field (.string "TongueHouseModel" 256) "java/lang/String" "value" "[B") (.int 0)) (.int 102)).before args s = true := lc_l (lc_l (lc_r (lc_l (lc_l (lc_l (lc_l (lc_r (lc_r (h)))))))))
theorem nw105 {args : Array Value} {s : State} (h : narrow_1.before args s = true) : (Cond.eq (.elem (.field (.string "TongueHouseModel" 256) "java/lang/String" "value" "[B") (.int 1)) (.int 97)).before args s = true := lc_r (lc_l (lc_r (lc_l (lc_l (lc_l (lc_l (lc_r (lc_r (h)))))))))
theorem nw106 {args : Array Value} {s : State} (h : narrow_1.before args s = true) : (Cond.eq (.elem (.field (.string "TongueHouseModel" 256) "java/lang/String" "value" "[B") (.int 2)) (.int 99)).before args s = true := lc_l (lc_r (lc_r (lc_l (lc_l (lc_l (lc_l (lc_r (lc_r (h)))))))))
theorem nw107 {args : Array Value} {s : State} (h : narrow_1.before args s = true) : (Cond.eq (.elem (.field (.string "TongueHouseModel" 256) "java/lang/String" "value" "[B") (.int 3)) (.int 116)).before args s = true := lc_r (lc_r (lc_r (lc_l (lc_l (lc_l (lc_l (lc_r (lc_r (h)))))))))
theorem nw108 {args : Array Value} {s : State} (h : narrow_1.before args s = true) : (Cond.exactly (.string "TongueHouseModel" 261) "java/lang/String").before args s = true := lc_l (lc_l (lc_r (lc_l (lc_l (lc_l (lc_r (lc_r (h))))))))
theorem nw109 {args : Array Value} {s : State} (h : narrow_1.before args s = true) : (Cond.eq (.field (.string "TongueHouseModel" 261) "java/lang/String" "coder" "B") (.int 0)).before args s = true := lc_l (lc_r (lc_l (lc_r (lc_l (lc_l (lc_l (lc_r (lc_r (h)))))))))
theorem nw110 {args : Array Value} {s : State} (h : narrow_1.before args s = true) : (Cond.arrayOf (.field (.string "TongueHouseModel" 261) "java/lang/String" "value" "[B") .byte).before args s = true := lc_r (lc_r (lc_l (lc_r (lc_l (lc_l (lc_l (lc_r (lc_r (h)))))))))
theorem nw111 {args : Array Value} {s : State} (h : narrow_1.before args s = true) : (Cond.eq (.length (.field (.string "TongueHouseModel" 261) "java/lang/String" "value" "[B")) (.int 4)).before args s = true := lc_l (lc_l (lc_r (lc_r (lc_l (lc_l (lc_l (lc_r (lc_r (h)))))))))
theorem nw112 {args : Array Value} {s : State} (h : narrow_1.before args s = true) : (Cond.eq (.elem (.field (.string "TongueHouseModel" 261) "java/lang/String" "value" "[B") (.int 0)) (.int 99)).before args s = true := lc_r (lc_l (lc_r (lc_r (lc_l (lc_l (lc_l (lc_r (lc_r (h)))))))))
theorem nw113 {args : Array Value} {s : State} (h : narrow_1.before args s = true) : (Cond.eq (.elem (.field (.string "TongueHouseModel" 261) "java/lang/String" "value" "[B") (.int 1)) (.int 111)).before args s = true := lc_l (lc_r (lc_r (lc_r (lc_l (lc_l (lc_l (lc_r (lc_r (h)))))))))
theorem nw114 {args : Array Value} {s : State} (h : narrow_1.before args s = true) : (Cond.eq (.elem (.field (.string "TongueHouseModel" 261) "java/lang/String" "value" "[B") (.int 2)) (.int 115)).before args s = true := lc_r (lc_r (lc_r (lc_r (lc_l (lc_l (lc_l (lc_r (lc_r (h)))))))))
theorem nw115 {args : Array Value} {s : State} (h : narrow_1.before args s = true) : (Cond.eq (.elem (.field (.string "TongueHouseModel" 261) "java/lang/String" "value" "[B") (.int 3)) (.int 116)).before args s = true := lc_l (lc_l (lc_l (lc_r (lc_l (lc_l (lc_r (lc_r (h))))))))
theorem nw116 {args : Array Value} {s : State} (h : narrow_1.before args s = true) : (Cond.exactly (.string "TongueHouseModel" 266) "java/lang/String").before args s = true := lc_l (lc_r (lc_l (lc_l (lc_r (lc_l (lc_l (lc_r (lc_r (h)))))))))
theorem nw117 {args : Array Value} {s : State} (h : narrow_1.before args s = true) : (Cond.eq (.field (.string "TongueHouseModel" 266) "java/lang/String" "coder" "B") (.int 0)).before args s = true := lc_r (lc_r (lc_l (lc_l (lc_r (lc_l (lc_l (lc_r (lc_r (h)))))))))
theorem nw118 {args : Array Value} {s : State} (h : narrow_1.before args s = true) : (Cond.arrayOf (.field (.string "TongueHouseModel" 266) "java/lang/String" "value" "[B") .byte).before args s = true := lc_l (lc_l (lc_r (lc_l (lc_r (lc_l (lc_l (lc_r (lc_r (h)))))))))
theorem nw119 {args : Array Value} {s : State} (h : narrow_1.before args s = true) : (Cond.eq (.length (.field (.string "TongueHouseModel" 266) "java/lang/String" "value" "[B")) (.int 3)).before args s = true := lc_r (lc_l (lc_r (lc_l (lc_r (lc_l (lc_l (lc_r (lc_r (h)))))))))
theorem nw120 {args : Array Value} {s : State} (h : narrow_1.before args s = true) : (Cond.eq (.elem (.field (.string "TongueHouseModel" 266) "java/lang/String" "value" "[B") (.int 0)) (.int 104)).before args s = true := lc_l (lc_r (lc_r (lc_l (lc_r (lc_l (lc_l (lc_r (lc_r (h)))))))))
theorem nw121 {args : Array Value} {s : State} (h : narrow_1.before args s = true) : (Cond.eq (.elem (.field (.string "TongueHouseModel" 266) "java/lang/String" "value" "[B") (.int 1)) (.int 97)).before args s = true := lc_r (lc_r (lc_r (lc_l (lc_r (lc_l (lc_l (lc_r (lc_r (h)))))))))
theorem nw122 {args : Array Value} {s : State} (h : narrow_1.before args s = true) : (Cond.eq (.elem (.field (.string "TongueHouseModel" 266) "java/lang/String" "value" "[B") (.int 2)) (.int 115)).before args s = true := lc_l (lc_l (lc_r (lc_r (lc_l (lc_l (lc_r (lc_r (h))))))))
theorem nw123 {args : Array Value} {s : State} (h : narrow_1.before args s = true) : (Cond.exactly (.string "TongueHouseModel" 271) "java/lang/String").before args s = true := lc_l (lc_r (lc_l (lc_r (lc_r (lc_l (lc_l (lc_r (lc_r (h)))))))))
theorem nw124 {args : Array Value} {s : State} (h : narrow_1.before args s = true) : (Cond.eq (.field (.string "TongueHouseModel" 271) "java/lang/String" "coder" "B") (.int 0)).before args s = true := lc_r (lc_r (lc_l (lc_r (lc_r (lc_l (lc_l (lc_r (lc_r (h)))))))))
theorem nw125 {args : Array Value} {s : State} (h : narrow_1.before args s = true) : (Cond.arrayOf (.field (.string "TongueHouseModel" 271) "java/lang/String" "value" "[B") .byte).before args s = true := lc_l (lc_l (lc_r (lc_r (lc_r (lc_l (lc_l (lc_r (lc_r (h)))))))))
theorem nw126 {args : Array Value} {s : State} (h : narrow_1.before args s = true) : (Cond.eq (.length (.field (.string "TongueHouseModel" 271) "java/lang/String" "value" "[B")) (.int 2)).before args s = true := lc_r (lc_l (lc_r (lc_r (lc_r (lc_l (lc_l (lc_r (lc_r (h)))))))))
theorem nw127 {args : Array Value} {s : State} (h : narrow_1.before args s = true) : (Cond.eq (.elem (.field (.string "TongueHouseModel" 271) "java/lang/String" "value" "[B") (.int 0)) (.int 111)).before args s = true := lc_l (lc_r (lc_r (lc_r (lc_r (lc_l (lc_l (lc_r (lc_r (h)))))))))
theorem nw128 {args : Array Value} {s : State} (h : narrow_1.before args s = true) : (Cond.eq (.elem (.field (.string "TongueHouseModel" 271) "java/lang/String" "value" "[B") (.int 1)) (.int 102)).before args s = true := lc_r (lc_r (lc_r (lc_r (lc_r (lc_l (lc_l (lc_r (lc_r (h)))))))))
theorem nw129 {args : Array Value} {s : State} (h : narrow_1.before args s = true) : (Cond.exactly (.string "TongueHouseModel" 276) "java/lang/String").before args s = true := lc_l (lc_l (lc_l (lc_l (lc_r (lc_l (lc_r (lc_r (h))))))))
theorem nw130 {args : Array Value} {s : State} (h : narrow_1.before args s = true) : (Cond.eq (.field (.string "TongueHouseModel" 276) "java/lang/String" "coder" "B") (.int 0)).before args s = true := lc_l (lc_r (lc_l (lc_l (lc_l (lc_r (lc_l (lc_r (lc_r (h)))))))))
theorem nw131 {args : Array Value} {s : State} (h : narrow_1.before args s = true) : (Cond.arrayOf (.field (.string "TongueHouseModel" 276) "java/lang/String" "value" "[B") .byte).before args s = true := lc_r (lc_r (lc_l (lc_l (lc_l (lc_r (lc_l (lc_r (lc_r (h)))))))))
theorem nw132 {args : Array Value} {s : State} (h : narrow_1.before args s = true) : (Cond.eq (.length (.field (.string "TongueHouseModel" 276) "java/lang/String" "value" "[B")) (.int 5)).before args s = true := lc_l (lc_l (lc_r (lc_l (lc_l (lc_r (lc_l (lc_r (lc_r (h)))))))))
theorem nw133 {args : Array Value} {s : State} (h : narrow_1.before args s = true) : (Cond.eq (.elem (.field (.string "TongueHouseModel" 276) "java/lang/String" "value" "[B") (.int 0)) (.int 97)).before args s = true := lc_r (lc_l (lc_r (lc_l (lc_l (lc_r (lc_l (lc_r (lc_r (h)))))))))
theorem nw134 {args : Array Value} {s : State} (h : narrow_1.before args s = true) : (Cond.eq (.elem (.field (.string "TongueHouseModel" 276) "java/lang/String" "value" "[B") (.int 1)) (.int 103)).before args s = true := lc_l (lc_r (lc_r (lc_l (lc_l (lc_r (lc_l (lc_r (lc_r (h)))))))))
theorem nw135 {args : Array Value} {s : State} (h : narrow_1.before args s = true) : (Cond.eq (.elem (.field (.string "TongueHouseModel" 276) "java/lang/String" "value" "[B") (.int 2)) (.int 114)).before args s = true := lc_r (lc_r (lc_r (lc_l (lc_l (lc_r (lc_l (lc_r (lc_r (h)))))))))
theorem nw136 {args : Array Value} {s : State} (h : narrow_1.before args s = true) : (Cond.eq (.elem (.field (.string "TongueHouseModel" 276) "java/lang/String" "value" "[B") (.int 3)) (.int 101)).before args s = true := lc_l (lc_l (lc_r (lc_l (lc_r (lc_l (lc_r (lc_r (h))))))))
theorem nw137 {args : Array Value} {s : State} (h : narrow_1.before args s = true) : (Cond.eq (.elem (.field (.string "TongueHouseModel" 276) "java/lang/String" "value" "[B") (.int 4)) (.int 101)).before args s = true := lc_l (lc_r (lc_l (lc_r (lc_l (lc_r (lc_l (lc_r (lc_r (h)))))))))
theorem nw138 {args : Array Value} {s : State} (h : narrow_1.before args s = true) : (Cond.exactly (.string "TongueHouseModel" 281) "java/lang/String").before args s = true := lc_r (lc_r (lc_l (lc_r (lc_l (lc_r (lc_l (lc_r (lc_r (h)))))))))
theorem nw139 {args : Array Value} {s : State} (h : narrow_1.before args s = true) : (Cond.eq (.field (.string "TongueHouseModel" 281) "java/lang/String" "coder" "B") (.int 0)).before args s = true := lc_l (lc_l (lc_r (lc_r (lc_l (lc_r (lc_l (lc_r (lc_r (h)))))))))
theorem nw140 {args : Array Value} {s : State} (h : narrow_1.before args s = true) : (Cond.arrayOf (.field (.string "TongueHouseModel" 281) "java/lang/String" "value" "[B") .byte).before args s = true := lc_r (lc_l (lc_r (lc_r (lc_l (lc_r (lc_l (lc_r (lc_r (h)))))))))
theorem nw141 {args : Array Value} {s : State} (h : narrow_1.before args s = true) : (Cond.eq (.length (.field (.string "TongueHouseModel" 281) "java/lang/String" "value" "[B")) (.int 4)).before args s = true := lc_l (lc_r (lc_r (lc_r (lc_l (lc_r (lc_l (lc_r (lc_r (h)))))))))
theorem nw142 {args : Array Value} {s : State} (h : narrow_1.before args s = true) : (Cond.eq (.elem (.field (.string "TongueHouseModel" 281) "java/lang/String" "value" "[B") (.int 0)) (.int 103)).before args s = true := lc_r (lc_r (lc_r (lc_r (lc_l (lc_r (lc_l (lc_r (lc_r (h)))))))))
theorem nw143 {args : Array Value} {s : State} (h : narrow_1.before args s = true) : (Cond.eq (.elem (.field (.string "TongueHouseModel" 281) "java/lang/String" "value" "[B") (.int 1)) (.int 105)).before args s = true := lc_l (lc_l (lc_l (lc_r (lc_r (lc_l (lc_r (lc_r (h))))))))
theorem nw144 {args : Array Value} {s : State} (h : narrow_1.before args s = true) : (Cond.eq (.elem (.field (.string "TongueHouseModel" 281) "java/lang/String" "value" "[B") (.int 2)) (.int 118)).before args s = true := lc_l (lc_r (lc_l (lc_l (lc_r (lc_r (lc_l (lc_r (lc_r (h)))))))))
theorem nw145 {args : Array Value} {s : State} (h : narrow_1.before args s = true) : (Cond.eq (.elem (.field (.string "TongueHouseModel" 281) "java/lang/String" "value" "[B") (.int 3)) (.int 101)).before args s = true := lc_r (lc_r (lc_l (lc_l (lc_r (lc_r (lc_l (lc_r (lc_r (h)))))))))
theorem nw146 {args : Array Value} {s : State} (h : narrow_1.before args s = true) : (Cond.exactly (.string "TongueHouseModel" 541) "java/lang/String").before args s = true := lc_l (lc_l (lc_r (lc_l (lc_r (lc_r (lc_l (lc_r (lc_r (h)))))))))
theorem nw147 {args : Array Value} {s : State} (h : narrow_1.before args s = true) : (Cond.eq (.field (.string "TongueHouseModel" 541) "java/lang/String" "coder" "B") (.int 0)).before args s = true := lc_r (lc_l (lc_r (lc_l (lc_r (lc_r (lc_l (lc_r (lc_r (h)))))))))
theorem nw148 {args : Array Value} {s : State} (h : narrow_1.before args s = true) : (Cond.arrayOf (.field (.string "TongueHouseModel" 541) "java/lang/String" "value" "[B") .byte).before args s = true := lc_l (lc_r (lc_r (lc_l (lc_r (lc_r (lc_l (lc_r (lc_r (h)))))))))
theorem nw149 {args : Array Value} {s : State} (h : narrow_1.before args s = true) : (Cond.eq (.length (.field (.string "TongueHouseModel" 541) "java/lang/String" "value" "[B")) (.int 3)).before args s = true := lc_r (lc_r (lc_r (lc_l (lc_r (lc_r (lc_l (lc_r (lc_r (h)))))))))
theorem nw150 {args : Array Value} {s : State} (h : narrow_1.before args s = true) : (Cond.eq (.elem (.field (.string "TongueHouseModel" 541) "java/lang/String" "value" "[B") (.int 0)) (.int 97)).before args s = true := lc_l (lc_l (lc_l (lc_r (lc_r (lc_r (lc_l (lc_r (lc_r (h)))))))))
theorem nw151 {args : Array Value} {s : State} (h : narrow_1.before args s = true) : (Cond.eq (.elem (.field (.string "TongueHouseModel" 541) "java/lang/String" "value" "[B") (.int 1)) (.int 110)).before args s = true := lc_r (lc_l (lc_l (lc_r (lc_r (lc_r (lc_l (lc_r (lc_r (h)))))))))
theorem nw152 {args : Array Value} {s : State} (h : narrow_1.before args s = true) : (Cond.eq (.elem (.field (.string "TongueHouseModel" 541) "java/lang/String" "value" "[B") (.int 2)) (.int 100)).before args s = true := lc_l (lc_r (lc_l (lc_r (lc_r (lc_r (lc_l (lc_r (lc_r (h)))))))))
theorem nw153 {args : Array Value} {s : State} (h : narrow_1.before args s = true) : (Cond.exactly (.string "TongueHouseModel" 546) "java/lang/String").before args s = true := lc_r (lc_r (lc_l (lc_r (lc_r (lc_r (lc_l (lc_r (lc_r (h)))))))))
theorem nw154 {args : Array Value} {s : State} (h : narrow_1.before args s = true) : (Cond.eq (.field (.string "TongueHouseModel" 546) "java/lang/String" "coder" "B") (.int 0)).before args s = true := lc_l (lc_l (lc_r (lc_r (lc_r (lc_r (lc_l (lc_r (lc_r (h)))))))))
theorem nw155 {args : Array Value} {s : State} (h : narrow_1.before args s = true) : (Cond.arrayOf (.field (.string "TongueHouseModel" 546) "java/lang/String" "value" "[B") .byte).before args s = true := lc_r (lc_l (lc_r (lc_r (lc_r (lc_r (lc_l (lc_r (lc_r (h)))))))))
theorem nw156 {args : Array Value} {s : State} (h : narrow_1.before args s = true) : (Cond.eq (.length (.field (.string "TongueHouseModel" 546) "java/lang/String" "value" "[B")) (.int 2)).before args s = true := lc_l (lc_r (lc_r (lc_r (lc_r (lc_r (lc_l (lc_r (lc_r (h)))))))))
theorem nw157 {args : Array Value} {s : State} (h : narrow_1.before args s = true) : (Cond.eq (.elem (.field (.string "TongueHouseModel" 546) "java/lang/String" "value" "[B") (.int 0)) (.int 111)).before args s = true := lc_r (lc_r (lc_r (lc_r (lc_r (lc_r (lc_l (lc_r (lc_r (h)))))))))
theorem nw158 {args : Array Value} {s : State} (h : narrow_1.before args s = true) : (Cond.eq (.elem (.field (.string "TongueHouseModel" 546) "java/lang/String" "value" "[B") (.int 1)) (.int 114)).before args s = true := lc_l (lc_l (lc_l (lc_l (lc_l (lc_r (lc_r (lc_r (h))))))))
theorem nw159 {args : Array Value} {s : State} (h : narrow_1.before args s = true) : (Cond.exactly (.string "TongueHouseModel" 551) "java/lang/String").before args s = true := lc_l (lc_r (lc_l (lc_l (lc_l (lc_l (lc_r (lc_r (lc_r (h)))))))))
theorem nw160 {args : Array Value} {s : State} (h : narrow_1.before args s = true) : (Cond.eq (.field (.string "TongueHouseModel" 551) "java/lang/String" "coder" "B") (.int 0)).before args s = true := lc_r (lc_r (lc_l (lc_l (lc_l (lc_l (lc_r (lc_r (lc_r (h)))))))))
theorem nw161 {args : Array Value} {s : State} (h : narrow_1.before args s = true) : (Cond.arrayOf (.field (.string "TongueHouseModel" 551) "java/lang/String" "value" "[B") .byte).before args s = true := lc_l (lc_l (lc_r (lc_l (lc_l (lc_l (lc_r (lc_r (lc_r (h)))))))))
theorem nw162 {args : Array Value} {s : State} (h : narrow_1.before args s = true) : (Cond.eq (.length (.field (.string "TongueHouseModel" 551) "java/lang/String" "value" "[B")) (.int 2)).before args s = true := lc_r (lc_l (lc_r (lc_l (lc_l (lc_l (lc_r (lc_r (lc_r (h)))))))))
theorem nw163 {args : Array Value} {s : State} (h : narrow_1.before args s = true) : (Cond.eq (.elem (.field (.string "TongueHouseModel" 551) "java/lang/String" "value" "[B") (.int 0)) (.int 105)).before args s = true := lc_l (lc_r (lc_r (lc_l (lc_l (lc_l (lc_r (lc_r (lc_r (h)))))))))
theorem nw164 {args : Array Value} {s : State} (h : narrow_1.before args s = true) : (Cond.eq (.elem (.field (.string "TongueHouseModel" 551) "java/lang/String" "value" "[B") (.int 1)) (.int 102)).before args s = true := lc_r (lc_r (lc_r (lc_l (lc_l (lc_l (lc_r (lc_r (lc_r (h)))))))))
theorem nw165 {args : Array Value} {s : State} (h : narrow_1.before args s = true) : (Cond.exactly (.string "TongueHouseModel" 556) "java/lang/String").before args s = true := lc_l (lc_l (lc_r (lc_l (lc_l (lc_r (lc_r (lc_r (h))))))))
theorem nw166 {args : Array Value} {s : State} (h : narrow_1.before args s = true) : (Cond.eq (.field (.string "TongueHouseModel" 556) "java/lang/String" "coder" "B") (.int 0)).before args s = true := lc_l (lc_r (lc_l (lc_r (lc_l (lc_l (lc_r (lc_r (lc_r (h)))))))))
theorem nw167 {args : Array Value} {s : State} (h : narrow_1.before args s = true) : (Cond.arrayOf (.field (.string "TongueHouseModel" 556) "java/lang/String" "value" "[B") .byte).before args s = true := lc_r (lc_r (lc_l (lc_r (lc_l (lc_l (lc_r (lc_r (lc_r (h)))))))))
theorem nw168 {args : Array Value} {s : State} (h : narrow_1.before args s = true) : (Cond.eq (.length (.field (.string "TongueHouseModel" 556) "java/lang/String" "value" "[B")) (.int 3)).before args s = true := lc_l (lc_l (lc_r (lc_r (lc_l (lc_l (lc_r (lc_r (lc_r (h)))))))))
theorem nw169 {args : Array Value} {s : State} (h : narrow_1.before args s = true) : (Cond.eq (.elem (.field (.string "TongueHouseModel" 556) "java/lang/String" "value" "[B") (.int 0)) (.int 110)).before args s = true := lc_r (lc_l (lc_r (lc_r (lc_l (lc_l (lc_r (lc_r (lc_r (h)))))))))
theorem nw170 {args : Array Value} {s : State} (h : narrow_1.before args s = true) : (Cond.eq (.elem (.field (.string "TongueHouseModel" 556) "java/lang/String" "value" "[B") (.int 1)) (.int 111)).before args s = true := lc_l (lc_r (lc_r (lc_r (lc_l (lc_l (lc_r (lc_r (lc_r (h)))))))))
theorem nw171 {args : Array Value} {s : State} (h : narrow_1.before args s = true) : (Cond.eq (.elem (.field (.string "TongueHouseModel" 556) "java/lang/String" "value" "[B") (.int 2)) (.int 116)).before args s = true := lc_r (lc_r (lc_r (lc_r (lc_l (lc_l (lc_r (lc_r (lc_r (h)))))))))
theorem nw172 {args : Array Value} {s : State} (h : narrow_1.before args s = true) : (Cond.exactly (.string "TongueHouseModel" 561) "java/lang/String").before args s = true := lc_l (lc_l (lc_l (lc_r (lc_l (lc_r (lc_r (lc_r (h))))))))
theorem nw173 {args : Array Value} {s : State} (h : narrow_1.before args s = true) : (Cond.eq (.field (.string "TongueHouseModel" 561) "java/lang/String" "coder" "B") (.int 0)).before args s = true := lc_l (lc_r (lc_l (lc_l (lc_r (lc_l (lc_r (lc_r (lc_r (h)))))))))
theorem nw174 {args : Array Value} {s : State} (h : narrow_1.before args s = true) : (Cond.arrayOf (.field (.string "TongueHouseModel" 561) "java/lang/String" "value" "[B") .byte).before args s = true := lc_r (lc_r (lc_l (lc_l (lc_r (lc_l (lc_r (lc_r (lc_r (h)))))))))
theorem nw175 {args : Array Value} {s : State} (h : narrow_1.before args s = true) : (Cond.eq (.length (.field (.string "TongueHouseModel" 561) "java/lang/String" "value" "[B")) (.int 3)).before args s = true := lc_l (lc_l (lc_r (lc_l (lc_r (lc_l (lc_r (lc_r (lc_r (h)))))))))
theorem nw176 {args : Array Value} {s : State} (h : narrow_1.before args s = true) : (Cond.eq (.elem (.field (.string "TongueHouseModel" 561) "java/lang/String" "value" "[B") (.int 0)) (.int 97)).before args s = true := lc_r (lc_l (lc_r (lc_l (lc_r (lc_l (lc_r (lc_r (lc_r (h)))))))))
theorem nw177 {args : Array Value} {s : State} (h : narrow_1.before args s = true) : (Cond.eq (.elem (.field (.string "TongueHouseModel" 561) "java/lang/String" "value" "[B") (.int 1)) (.int 108)).before args s = true := lc_l (lc_r (lc_r (lc_l (lc_r (lc_l (lc_r (lc_r (lc_r (h)))))))))
theorem nw178 {args : Array Value} {s : State} (h : narrow_1.before args s = true) : (Cond.eq (.elem (.field (.string "TongueHouseModel" 561) "java/lang/String" "value" "[B") (.int 2)) (.int 108)).before args s = true := lc_r (lc_r (lc_r (lc_l (lc_r (lc_l (lc_r (lc_r (lc_r (h)))))))))
theorem nw179 {args : Array Value} {s : State} (h : narrow_1.before args s = true) : (Cond.exactly (.string "TongueHouseModel" 566) "java/lang/String").before args s = true := lc_l (lc_l (lc_l (lc_r (lc_r (lc_l (lc_r (lc_r (lc_r (h)))))))))
theorem nw180 {args : Array Value} {s : State} (h : narrow_1.before args s = true) : (Cond.eq (.field (.string "TongueHouseModel" 566) "java/lang/String" "coder" "B") (.int 0)).before args s = true := lc_r (lc_l (lc_l (lc_r (lc_r (lc_l (lc_r (lc_r (lc_r (h)))))))))
theorem nw181 {args : Array Value} {s : State} (h : narrow_1.before args s = true) : (Cond.arrayOf (.field (.string "TongueHouseModel" 566) "java/lang/String" "value" "[B") .byte).before args s = true := lc_l (lc_r (lc_l (lc_r (lc_r (lc_l (lc_r (lc_r (lc_r (h)))))))))
theorem nw182 {args : Array Value} {s : State} (h : narrow_1.before args s = true) : (Cond.eq (.length (.field (.string "TongueHouseModel" 566) "java/lang/String" "value" "[B")) (.int 4)).before args s = true := lc_r (lc_r (lc_l (lc_r (lc_r (lc_l (lc_r (lc_r (lc_r (h)))))))))
theorem nw183 {args : Array Value} {s : State} (h : narrow_1.before args s = true) : (Cond.eq (.elem (.field (.string "TongueHouseModel" 566) "java/lang/String" "value" "[B") (.int 0)) (.int 115)).before args s = true := lc_l (lc_l (lc_r (lc_r (lc_r (lc_l (lc_r (lc_r (lc_r (h)))))))))
theorem nw184 {args : Array Value} {s : State} (h : narrow_1.before args s = true) : (Cond.eq (.elem (.field (.string "TongueHouseModel" 566) "java/lang/String" "value" "[B") (.int 1)) (.int 111)).before args s = true := lc_r (lc_l (lc_r (lc_r (lc_r (lc_l (lc_r (lc_r (lc_r (h)))))))))
theorem nw185 {args : Array Value} {s : State} (h : narrow_1.before args s = true) : (Cond.eq (.elem (.field (.string "TongueHouseModel" 566) "java/lang/String" "value" "[B") (.int 2)) (.int 109)).before args s = true := lc_l (lc_r (lc_r (lc_r (lc_r (lc_l (lc_r (lc_r (lc_r (h)))))))))
theorem nw186 {args : Array Value} {s : State} (h : narrow_1.before args s = true) : (Cond.eq (.elem (.field (.string "TongueHouseModel" 566) "java/lang/String" "value" "[B") (.int 3)) (.int 101)).before args s = true := lc_r (lc_r (lc_r (lc_r (lc_r (lc_l (lc_r (lc_r (lc_r (h)))))))))
theorem nw187 {args : Array Value} {s : State} (h : narrow_1.before args s = true) : (Cond.exactly (.string "TongueHouseModel" 571) "java/lang/String").before args s = true := lc_l (lc_l (lc_l (lc_l (lc_r (lc_r (lc_r (lc_r (h))))))))
theorem nw188 {args : Array Value} {s : State} (h : narrow_1.before args s = true) : (Cond.eq (.field (.string "TongueHouseModel" 571) "java/lang/String" "coder" "B") (.int 0)).before args s = true := lc_l (lc_r (lc_l (lc_l (lc_l (lc_r (lc_r (lc_r (lc_r (h)))))))))
theorem nw189 {args : Array Value} {s : State} (h : narrow_1.before args s = true) : (Cond.arrayOf (.field (.string "TongueHouseModel" 571) "java/lang/String" "value" "[B") .byte).before args s = true := lc_r (lc_r (lc_l (lc_l (lc_l (lc_r (lc_r (lc_r (lc_r (h)))))))))
theorem nw190 {args : Array Value} {s : State} (h : narrow_1.before args s = true) : (Cond.eq (.length (.field (.string "TongueHouseModel" 571) "java/lang/String" "value" "[B")) (.int 2)).before args s = true := lc_l (lc_l (lc_r (lc_l (lc_l (lc_r (lc_r (lc_r (lc_r (h)))))))))
theorem nw191 {args : Array Value} {s : State} (h : narrow_1.before args s = true) : (Cond.eq (.elem (.field (.string "TongueHouseModel" 571) "java/lang/String" "value" "[B") (.int 0)) (.int 105)).before args s = true := lc_r (lc_l (lc_r (lc_l (lc_l (lc_r (lc_r (lc_r (lc_r (h)))))))))
theorem nw192 {args : Array Value} {s : State} (h : narrow_1.before args s = true) : (Cond.eq (.elem (.field (.string "TongueHouseModel" 571) "java/lang/String" "value" "[B") (.int 1)) (.int 115)).before args s = true := lc_l (lc_r (lc_r (lc_l (lc_l (lc_r (lc_r (lc_r (lc_r (h)))))))))
def lc_str (args : Array Value) (s : State) (x : Nat × String × Nat) : Prop := (Cond.exactly (.string RX13 x.1) "java/lang/String").before args s = true ∧ (Cond.eq (.field (.string RX13 x.1) "java/lang/String" "coder" "B") (.int 0)).before args s = true ∧ (Cond.arrayOf (.field (.string RX13 x.1) "java/lang/String" "value" "[B") .byte).before args s = true ∧ (Cond.eq (.length (.field (.string RX13 x.1) "java/lang/String" "value" "[B")) (.int (Int32.ofNat x.2.2))).before args s = true ∧ ∀ j, j < x.2.2 → (Cond.eq (.elem (.field (.string RX13 x.1) "java/lang/String" "value" "[B") (.int (Int32.ofNat j))) (.int ((ps_byt x.1).getD j 0))).before args s = true
theorem lc_s0 {args : Array Value} {s : State} (h : narrow_1.before args s = true) : lc_str args s (197, "tongue", 6) := by
  refine ⟨nw1 h, nw2 h, nw3 h, nw4 h, fun j hj => ?_⟩
  match j, hj with
  | 0, _ => exact nw5 h
  | 1, _ => exact nw6 h
  | 2, _ => exact nw7 h
  | 3, _ => exact nw8 h
  | 4, _ => exact nw9 h
  | 5, _ => exact nw10 h
  | k + 6, hk => exact absurd hk (by dsimp only; omega)
theorem lc_s1 {args : Array Value} {s : State} (h : narrow_1.before args s = true) : lc_str args s (207, "kind", 4) := by
  refine ⟨nw11 h, nw12 h, nw13 h, nw14 h, fun j hj => ?_⟩
  match j, hj with
  | 0, _ => exact nw15 h
  | 1, _ => exact nw16 h
  | 2, _ => exact nw17 h
  | 3, _ => exact nw18 h
  | k + 4, hk => exact absurd hk (by dsimp only; omega)
theorem lc_s2 {args : Array Value} {s : State} (h : narrow_1.before args s = true) : lc_str args s (212, "fun", 3) := by
  refine ⟨nw19 h, nw20 h, nw21 h, nw22 h, fun j hj => ?_⟩
  match j, hj with
  | 0, _ => exact nw23 h
  | 1, _ => exact nw24 h
  | 2, _ => exact nw25 h
  | k + 3, hk => exact absurd hk (by dsimp only; omega)
theorem lc_s3 {args : Array Value} {s : State} (h : narrow_1.before args s = true) : lc_str args s (217, "feature", 7) := by
  refine ⟨nw26 h, nw27 h, nw28 h, nw29 h, fun j hj => ?_⟩
  match j, hj with
  | 0, _ => exact nw30 h
  | 1, _ => exact nw31 h
  | 2, _ => exact nw32 h
  | 3, _ => exact nw33 h
  | 4, _ => exact nw34 h
  | 5, _ => exact nw35 h
  | 6, _ => exact nw36 h
  | k + 7, hk => exact absurd hk (by dsimp only; omega)
theorem lc_s4 {args : Array Value} {s : State} (h : narrow_1.before args s = true) : lc_str args s (222, "letters", 7) := by
  refine ⟨nw37 h, nw38 h, nw39 h, nw40 h, fun j hj => ?_⟩
  match j, hj with
  | 0, _ => exact nw41 h
  | 1, _ => exact nw42 h
  | 2, _ => exact nw43 h
  | 3, _ => exact nw44 h
  | 4, _ => exact nw45 h
  | 5, _ => exact nw46 h
  | 6, _ => exact nw47 h
  | k + 7, hk => exact absurd hk (by dsimp only; omega)
theorem lc_s5 {args : Array Value} {s : State} (h : narrow_1.before args s = true) : lc_str args s (227, "sound", 5) := by
  refine ⟨nw48 h, nw49 h, nw50 h, nw51 h, fun j hj => ?_⟩
  match j, hj with
  | 0, _ => exact nw52 h
  | 1, _ => exact nw53 h
  | 2, _ => exact nw54 h
  | 3, _ => exact nw55 h
  | 4, _ => exact nw56 h
  | k + 5, hk => exact absurd hk (by dsimp only; omega)
theorem lc_s6 {args : Array Value} {s : State} (h : narrow_1.before args s = true) : lc_str args s (232, "pattern", 7) := by
  refine ⟨nw57 h, nw58 h, nw59 h, nw60 h, fun j hj => ?_⟩
  match j, hj with
  | 0, _ => exact nw61 h
  | 1, _ => exact nw62 h
  | 2, _ => exact nw63 h
  | 3, _ => exact nw64 h
  | 4, _ => exact nw65 h
  | 5, _ => exact nw66 h
  | 6, _ => exact nw67 h
  | k + 7, hk => exact absurd hk (by dsimp only; omega)
theorem lc_s7 {args : Array Value} {s : State} (h : narrow_1.before args s = true) : lc_str args s (237, "word", 4) := by
  refine ⟨nw68 h, nw69 h, nw70 h, nw71 h, fun j hj => ?_⟩
  match j, hj with
  | 0, _ => exact nw72 h
  | 1, _ => exact nw73 h
  | 2, _ => exact nw74 h
  | 3, _ => exact nw75 h
  | k + 4, hk => exact absurd hk (by dsimp only; omega)
theorem lc_s8 {args : Array Value} {s : State} (h : narrow_1.before args s = true) : lc_str args s (241, "lin", 3) := by
  refine ⟨nw76 h, nw77 h, nw78 h, nw79 h, fun j hj => ?_⟩
  match j, hj with
  | 0, _ => exact nw80 h
  | 1, _ => exact nw81 h
  | 2, _ => exact nw82 h
  | k + 3, hk => exact absurd hk (by dsimp only; omega)
theorem lc_s9 {args : Array Value} {s : State} (h : narrow_1.before args s = true) : lc_str args s (246, "mean", 4) := by
  refine ⟨nw83 h, nw84 h, nw85 h, nw86 h, fun j hj => ?_⟩
  match j, hj with
  | 0, _ => exact nw87 h
  | 1, _ => exact nw88 h
  | 2, _ => exact nw89 h
  | 3, _ => exact nw90 h
  | k + 4, hk => exact absurd hk (by dsimp only; omega)
theorem lc_s10 {args : Array Value} {s : State} (h : narrow_1.before args s = true) : lc_str args s (251, "thing", 5) := by
  refine ⟨nw91 h, nw92 h, nw93 h, nw94 h, fun j hj => ?_⟩
  match j, hj with
  | 0, _ => exact nw95 h
  | 1, _ => exact nw96 h
  | 2, _ => exact nw97 h
  | 3, _ => exact nw98 h
  | 4, _ => exact nw99 h
  | k + 5, hk => exact absurd hk (by dsimp only; omega)
theorem lc_s11 {args : Array Value} {s : State} (h : narrow_1.before args s = true) : lc_str args s (256, "fact", 4) := by
  refine ⟨nw100 h, nw101 h, nw102 h, nw103 h, fun j hj => ?_⟩
  match j, hj with
  | 0, _ => exact nw104 h
  | 1, _ => exact nw105 h
  | 2, _ => exact nw106 h
  | 3, _ => exact nw107 h
  | k + 4, hk => exact absurd hk (by dsimp only; omega)
theorem lc_s12 {args : Array Value} {s : State} (h : narrow_1.before args s = true) : lc_str args s (261, "cost", 4) := by
  refine ⟨nw108 h, nw109 h, nw110 h, nw111 h, fun j hj => ?_⟩
  match j, hj with
  | 0, _ => exact nw112 h
  | 1, _ => exact nw113 h
  | 2, _ => exact nw114 h
  | 3, _ => exact nw115 h
  | k + 4, hk => exact absurd hk (by dsimp only; omega)
theorem lc_s13 {args : Array Value} {s : State} (h : narrow_1.before args s = true) : lc_str args s (266, "has", 3) := by
  refine ⟨nw116 h, nw117 h, nw118 h, nw119 h, fun j hj => ?_⟩
  match j, hj with
  | 0, _ => exact nw120 h
  | 1, _ => exact nw121 h
  | 2, _ => exact nw122 h
  | k + 3, hk => exact absurd hk (by dsimp only; omega)
theorem lc_s14 {args : Array Value} {s : State} (h : narrow_1.before args s = true) : lc_str args s (271, "of", 2) := by
  refine ⟨nw123 h, nw124 h, nw125 h, nw126 h, fun j hj => ?_⟩
  match j, hj with
  | 0, _ => exact nw127 h
  | 1, _ => exact nw128 h
  | k + 2, hk => exact absurd hk (by dsimp only; omega)
theorem lc_s15 {args : Array Value} {s : State} (h : narrow_1.before args s = true) : lc_str args s (276, "agree", 5) := by
  refine ⟨nw129 h, nw130 h, nw131 h, nw132 h, fun j hj => ?_⟩
  match j, hj with
  | 0, _ => exact nw133 h
  | 1, _ => exact nw134 h
  | 2, _ => exact nw135 h
  | 3, _ => exact nw136 h
  | 4, _ => exact nw137 h
  | k + 5, hk => exact absurd hk (by dsimp only; omega)
theorem lc_s16 {args : Array Value} {s : State} (h : narrow_1.before args s = true) : lc_str args s (281, "give", 4) := by
  refine ⟨nw138 h, nw139 h, nw140 h, nw141 h, fun j hj => ?_⟩
  match j, hj with
  | 0, _ => exact nw142 h
  | 1, _ => exact nw143 h
  | 2, _ => exact nw144 h
  | 3, _ => exact nw145 h
  | k + 4, hk => exact absurd hk (by dsimp only; omega)
theorem lc_s17 {args : Array Value} {s : State} (h : narrow_1.before args s = true) : lc_str args s (541, "and", 3) := by
  refine ⟨nw146 h, nw147 h, nw148 h, nw149 h, fun j hj => ?_⟩
  match j, hj with
  | 0, _ => exact nw150 h
  | 1, _ => exact nw151 h
  | 2, _ => exact nw152 h
  | k + 3, hk => exact absurd hk (by dsimp only; omega)
theorem lc_s18 {args : Array Value} {s : State} (h : narrow_1.before args s = true) : lc_str args s (546, "or", 2) := by
  refine ⟨nw153 h, nw154 h, nw155 h, nw156 h, fun j hj => ?_⟩
  match j, hj with
  | 0, _ => exact nw157 h
  | 1, _ => exact nw158 h
  | k + 2, hk => exact absurd hk (by dsimp only; omega)
theorem lc_s19 {args : Array Value} {s : State} (h : narrow_1.before args s = true) : lc_str args s (551, "if", 2) := by
  refine ⟨nw159 h, nw160 h, nw161 h, nw162 h, fun j hj => ?_⟩
  match j, hj with
  | 0, _ => exact nw163 h
  | 1, _ => exact nw164 h
  | k + 2, hk => exact absurd hk (by dsimp only; omega)
theorem lc_s20 {args : Array Value} {s : State} (h : narrow_1.before args s = true) : lc_str args s (556, "not", 3) := by
  refine ⟨nw165 h, nw166 h, nw167 h, nw168 h, fun j hj => ?_⟩
  match j, hj with
  | 0, _ => exact nw169 h
  | 1, _ => exact nw170 h
  | 2, _ => exact nw171 h
  | k + 3, hk => exact absurd hk (by dsimp only; omega)
theorem lc_s21 {args : Array Value} {s : State} (h : narrow_1.before args s = true) : lc_str args s (561, "all", 3) := by
  refine ⟨nw172 h, nw173 h, nw174 h, nw175 h, fun j hj => ?_⟩
  match j, hj with
  | 0, _ => exact nw176 h
  | 1, _ => exact nw177 h
  | 2, _ => exact nw178 h
  | k + 3, hk => exact absurd hk (by dsimp only; omega)
theorem lc_s22 {args : Array Value} {s : State} (h : narrow_1.before args s = true) : lc_str args s (566, "some", 4) := by
  refine ⟨nw179 h, nw180 h, nw181 h, nw182 h, fun j hj => ?_⟩
  match j, hj with
  | 0, _ => exact nw183 h
  | 1, _ => exact nw184 h
  | 2, _ => exact nw185 h
  | 3, _ => exact nw186 h
  | k + 4, hk => exact absurd hk (by dsimp only; omega)
theorem lc_s23 {args : Array Value} {s : State} (h : narrow_1.before args s = true) : lc_str args s (571, "is", 2) := by
  refine ⟨nw187 h, nw188 h, nw189 h, nw190 h, fun j hj => ?_⟩
  match j, hj with
  | 0, _ => exact nw191 h
  | 1, _ => exact nw192 h
  | k + 2, hk => exact absurd hk (by dsimp only; omega)
theorem ps1 {args : Array Value} {s : State} (h : narrow_1.before args s = true) : ∀ x ∈ ps_strs, lc_str args s x := List.forall_mem_cons.mpr ⟨lc_s0 h, List.forall_mem_cons.mpr ⟨lc_s1 h, List.forall_mem_cons.mpr ⟨lc_s2 h, List.forall_mem_cons.mpr ⟨lc_s3 h, List.forall_mem_cons.mpr ⟨lc_s4 h, List.forall_mem_cons.mpr ⟨lc_s5 h, List.forall_mem_cons.mpr ⟨lc_s6 h, List.forall_mem_cons.mpr ⟨lc_s7 h, List.forall_mem_cons.mpr ⟨lc_s8 h, List.forall_mem_cons.mpr ⟨lc_s9 h, List.forall_mem_cons.mpr ⟨lc_s10 h, List.forall_mem_cons.mpr ⟨lc_s11 h, List.forall_mem_cons.mpr ⟨lc_s12 h, List.forall_mem_cons.mpr ⟨lc_s13 h, List.forall_mem_cons.mpr ⟨lc_s14 h, List.forall_mem_cons.mpr ⟨lc_s15 h, List.forall_mem_cons.mpr ⟨lc_s16 h, List.forall_mem_cons.mpr ⟨lc_s17 h, List.forall_mem_cons.mpr ⟨lc_s18 h, List.forall_mem_cons.mpr ⟨lc_s19 h, List.forall_mem_cons.mpr ⟨lc_s20 h, List.forall_mem_cons.mpr ⟨lc_s21 h, List.forall_mem_cons.mpr ⟨lc_s22 h, List.forall_mem_cons.mpr ⟨lc_s23 h, fun _ h => absurd h List.not_mem_nil⟩⟩⟩⟩⟩⟩⟩⟩⟩⟩⟩⟩⟩⟩⟩⟩⟩⟩⟩⟩⟩⟩⟩⟩
theorem nw193 {args : Array Value} {s : State} (h : narrow_1.before args s = true) : (Cond.exactly (.string "TongueHouse" 106) "java/lang/String").before args s = true := lc_r (lc_l (lc_r (lc_r (lc_l (lc_r (lc_l (lc_l (lc_l (h)))))))))
theorem nw194 {args : Array Value} {s : State} (h : narrow_1.before args s = true) : (Cond.exactly (.string "TongueHouse" 117) "java/lang/String").before args s = true := lc_l (lc_r (lc_r (lc_r (lc_l (lc_l (lc_r (lc_l (lc_l (h)))))))))
theorem nw195 {args : Array Value} {s : State} (h : narrow_1.before args s = true) : (Cond.exactly (.string "TongueHouse" 143) "java/lang/String").before args s = true := lc_r (lc_l (lc_r (lc_l (lc_r (lc_r (lc_r (lc_l (lc_l (h)))))))))
theorem nw196 {args : Array Value} {s : State} (h : narrow_1.before args s = true) : (Cond.exactly (.string "TongueHouse" 210) "java/lang/String").before args s = true := lc_r (lc_r (lc_l (lc_r (lc_r (lc_l (lc_l (lc_r (lc_l (h)))))))))
theorem nw197 {args : Array Value} {s : State} (h : narrow_1.before args s = true) : (Cond.exactly (.string "TongueHouse" 216) "java/lang/String").before args s = true := lc_r (lc_l (lc_r (lc_r (lc_l (lc_r (lc_l (lc_r (lc_l (h)))))))))
theorem nw198 {args : Array Value} {s : State} (h : narrow_1.before args s = true) : (Cond.exactly (.string "TongueHouse" 240) "java/lang/String").before args s = true := lc_l (lc_l (lc_l (lc_r (lc_l (lc_r (lc_r (lc_l (h))))))))
theorem nw199 {args : Array Value} {s : State} (h : narrow_1.before args s = true) : (Cond.exactly (.string "TongueHouse" 298) "java/lang/String").before args s = true := lc_l (lc_l (lc_r (lc_l (lc_r (lc_r (lc_r (lc_r (lc_l (h)))))))))
theorem nw200 {args : Array Value} {s : State} (h : narrow_1.before args s = true) : (Cond.exactly (.string "TongueHouse" 360) "java/lang/String").before args s = true := lc_l (lc_r (lc_r (lc_l (lc_l (lc_l (lc_l (lc_r (lc_l (h)))))))))
theorem nw201 {args : Array Value} {s : State} (h : narrow_1.before args s = true) : (Cond.exactly (.string "TongueHouse" 362) "java/lang/String").before args s = true := lc_l (lc_r (lc_r (lc_r (lc_r (lc_r (lc_l (lc_r (lc_l (h)))))))))
theorem nw202 {args : Array Value} {s : State} (h : narrow_1.before args s = true) : (Cond.exactly (.string "TongueHouse" 364) "java/lang/String").before args s = true := lc_l (lc_l (lc_l (lc_l (lc_r (lc_r (lc_r (lc_l (h))))))))
theorem px1 {args : Array Value} {s : State} (h : narrow_1.before args s = true) : ∀ x ∈ px_strs, (Cond.exactly (.string RX12 x.1) "java/lang/String").before args s = true := List.forall_mem_cons.mpr ⟨nw193 h, List.forall_mem_cons.mpr ⟨nw194 h, List.forall_mem_cons.mpr ⟨nw195 h, List.forall_mem_cons.mpr ⟨nw196 h, List.forall_mem_cons.mpr ⟨nw197 h, List.forall_mem_cons.mpr ⟨nw198 h, List.forall_mem_cons.mpr ⟨nw199 h, List.forall_mem_cons.mpr ⟨nw200 h, List.forall_mem_cons.mpr ⟨nw201 h, List.forall_mem_cons.mpr ⟨nw202 h, fun _ h => absurd h List.not_mem_nil⟩⟩⟩⟩⟩⟩⟩⟩⟩⟩
