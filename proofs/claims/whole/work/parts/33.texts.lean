/-! ===== printed by wip/whole/gen.py: the constant texts at the start ===== -/
theorem px_andl {a b : Cond} {args : Array Value} {s : State} (h : (Cond.and a b).before args s = true) : a.before args s = true := by
  rw [Cond.before_and, Bool.and_eq_true] at h
  exact h.1
theorem px_andr {a b : Cond} {args : Array Value} {s : State} (h : (Cond.and a b).before args s = true) : b.before args s = true := by
  rw [Cond.before_and, Bool.and_eq_true] at h
  exact h.2
def px_sf (args : Array Value) (s : State) (o : String) (i n : Nat) (bs : List Int32) : Prop :=
  (Cond.exactly (.string o i) "java/lang/String").before args s = true ∧ (Cond.eq (.field (.string o i) "java/lang/String" "coder" "B") (.int 0)).before args s = true ∧ (Cond.arrayOf (.field (.string o i) "java/lang/String" "value" "[B") .byte).before args s = true ∧
  (Cond.eq (.length (.field (.string o i) "java/lang/String" "value" "[B")) (.int (Int32.ofNat n))).before args s = true ∧ ∀ j, j < n → (Cond.eq (.elem (.field (.string o i) "java/lang/String" "value" "[B") (.int (Int32.ofNat j))) (.int (bs.getD j 0))).before args s = true
set_option maxHeartbeats 4000000 in
theorem sf_0 {args : Array Value} {s : State} (h : narrow_1.before args s = true) : px_sf args s "KettleChoir" 78 30 (kt_X.2.2.1.getD 0 []) := ⟨(px_andr (px_andr (px_andl (px_andr (px_andl (px_andr (px_andl (px_andl (px_andl (px_andl h)))))))))), (px_andl (px_andl (px_andr (px_andr (px_andl (px_andr (px_andl (px_andl (px_andl (px_andl h)))))))))), (px_andr (px_andl (px_andr (px_andr (px_andl (px_andr (px_andl (px_andl (px_andl (px_andl h)))))))))), (px_andl (px_andr (px_andr (px_andr (px_andl (px_andr (px_andl (px_andl (px_andl (px_andl h)))))))))), fun j hj => match j, hj with
  | 0, _ => (px_andr (px_andr (px_andr (px_andr (px_andl (px_andr (px_andl (px_andl (px_andl (px_andl h))))))))))
  | 1, _ => (px_andl (px_andl (px_andl (px_andr (px_andr (px_andl (px_andl (px_andl (px_andl h)))))))))
  | 2, _ => (px_andl (px_andr (px_andl (px_andl (px_andr (px_andr (px_andl (px_andl (px_andl (px_andl h))))))))))
  | 3, _ => (px_andr (px_andr (px_andl (px_andl (px_andr (px_andr (px_andl (px_andl (px_andl (px_andl h))))))))))
  | 4, _ => (px_andl (px_andr (px_andl (px_andr (px_andr (px_andl (px_andl (px_andl (px_andl h)))))))))
  | 5, _ => (px_andl (px_andr (px_andr (px_andl (px_andr (px_andr (px_andl (px_andl (px_andl (px_andl h))))))))))
  | 6, _ => (px_andr (px_andr (px_andr (px_andl (px_andr (px_andr (px_andl (px_andl (px_andl (px_andl h))))))))))
  | 7, _ => (px_andl (px_andl (px_andr (px_andr (px_andr (px_andl (px_andl (px_andl (px_andl h)))))))))
  | 8, _ => (px_andl (px_andr (px_andl (px_andr (px_andr (px_andr (px_andl (px_andl (px_andl (px_andl h))))))))))
  | 9, _ => (px_andr (px_andr (px_andl (px_andr (px_andr (px_andr (px_andl (px_andl (px_andl (px_andl h))))))))))
  | 10, _ => (px_andl (px_andl (px_andr (px_andr (px_andr (px_andr (px_andl (px_andl (px_andl (px_andl h))))))))))
  | 11, _ => (px_andr (px_andl (px_andr (px_andr (px_andr (px_andr (px_andl (px_andl (px_andl (px_andl h))))))))))
  | 12, _ => (px_andl (px_andr (px_andr (px_andr (px_andr (px_andr (px_andl (px_andl (px_andl (px_andl h))))))))))
  | 13, _ => (px_andr (px_andr (px_andr (px_andr (px_andr (px_andr (px_andl (px_andl (px_andl (px_andl h))))))))))
  | 14, _ => (px_andl (px_andl (px_andl (px_andl (px_andl (px_andr (px_andl (px_andl (px_andl h)))))))))
  | 15, _ => (px_andl (px_andr (px_andl (px_andl (px_andl (px_andl (px_andr (px_andl (px_andl (px_andl h))))))))))
  | 16, _ => (px_andr (px_andr (px_andl (px_andl (px_andl (px_andl (px_andr (px_andl (px_andl (px_andl h))))))))))
  | 17, _ => (px_andl (px_andr (px_andl (px_andl (px_andl (px_andr (px_andl (px_andl (px_andl h)))))))))
  | 18, _ => (px_andl (px_andr (px_andr (px_andl (px_andl (px_andl (px_andr (px_andl (px_andl (px_andl h))))))))))
  | 19, _ => (px_andr (px_andr (px_andr (px_andl (px_andl (px_andl (px_andr (px_andl (px_andl (px_andl h))))))))))
  | 20, _ => (px_andl (px_andl (px_andr (px_andl (px_andl (px_andr (px_andl (px_andl (px_andl h)))))))))
  | 21, _ => (px_andl (px_andr (px_andl (px_andr (px_andl (px_andl (px_andr (px_andl (px_andl (px_andl h))))))))))
  | 22, _ => (px_andr (px_andr (px_andl (px_andr (px_andl (px_andl (px_andr (px_andl (px_andl (px_andl h))))))))))
  | 23, _ => (px_andl (px_andr (px_andr (px_andl (px_andl (px_andr (px_andl (px_andl (px_andl h)))))))))
  | 24, _ => (px_andl (px_andr (px_andr (px_andr (px_andl (px_andl (px_andr (px_andl (px_andl (px_andl h))))))))))
  | 25, _ => (px_andr (px_andr (px_andr (px_andr (px_andl (px_andl (px_andr (px_andl (px_andl (px_andl h))))))))))
  | 26, _ => (px_andl (px_andl (px_andl (px_andr (px_andl (px_andr (px_andl (px_andl (px_andl h)))))))))
  | 27, _ => (px_andl (px_andr (px_andl (px_andl (px_andr (px_andl (px_andr (px_andl (px_andl (px_andl h))))))))))
  | 28, _ => (px_andr (px_andr (px_andl (px_andl (px_andr (px_andl (px_andr (px_andl (px_andl (px_andl h))))))))))
  | 29, _ => (px_andl (px_andr (px_andl (px_andr (px_andl (px_andr (px_andl (px_andl (px_andl h)))))))))
  | n + 30, h9 => absurd h9 (by omega)⟩
set_option maxHeartbeats 4000000 in
theorem sf_1 {args : Array Value} {s : State} (h : narrow_1.before args s = true) : px_sf args s "KettleChoir" 141 13 (kt_X.2.2.1.getD 1 []) := ⟨(px_andr (px_andr (px_andr (px_andl (px_andl (px_andl (px_andl (px_andl (px_andr (px_andl h)))))))))), (px_andl (px_andl (px_andr (px_andl (px_andl (px_andl (px_andl (px_andr (px_andl h))))))))), (px_andl (px_andr (px_andl (px_andr (px_andl (px_andl (px_andl (px_andl (px_andr (px_andl h)))))))))), (px_andr (px_andr (px_andl (px_andr (px_andl (px_andl (px_andl (px_andl (px_andr (px_andl h)))))))))), fun j hj => match j, hj with
  | 0, _ => (px_andl (px_andr (px_andr (px_andl (px_andl (px_andl (px_andl (px_andr (px_andl h)))))))))
  | 1, _ => (px_andl (px_andr (px_andr (px_andr (px_andl (px_andl (px_andl (px_andl (px_andr (px_andl h))))))))))
  | 2, _ => (px_andr (px_andr (px_andr (px_andr (px_andl (px_andl (px_andl (px_andl (px_andr (px_andl h))))))))))
  | 3, _ => (px_andl (px_andl (px_andl (px_andr (px_andl (px_andl (px_andl (px_andr (px_andl h)))))))))
  | 4, _ => (px_andl (px_andr (px_andl (px_andl (px_andr (px_andl (px_andl (px_andl (px_andr (px_andl h))))))))))
  | 5, _ => (px_andr (px_andr (px_andl (px_andl (px_andr (px_andl (px_andl (px_andl (px_andr (px_andl h))))))))))
  | 6, _ => (px_andl (px_andr (px_andl (px_andr (px_andl (px_andl (px_andl (px_andr (px_andl h)))))))))
  | 7, _ => (px_andl (px_andr (px_andr (px_andl (px_andr (px_andl (px_andl (px_andl (px_andr (px_andl h))))))))))
  | 8, _ => (px_andr (px_andr (px_andr (px_andl (px_andr (px_andl (px_andl (px_andl (px_andr (px_andl h))))))))))
  | 9, _ => (px_andl (px_andl (px_andr (px_andr (px_andl (px_andl (px_andl (px_andr (px_andl h)))))))))
  | 10, _ => (px_andl (px_andr (px_andl (px_andr (px_andr (px_andl (px_andl (px_andl (px_andr (px_andl h))))))))))
  | 11, _ => (px_andr (px_andr (px_andl (px_andr (px_andr (px_andl (px_andl (px_andl (px_andr (px_andl h))))))))))
  | 12, _ => (px_andl (px_andl (px_andr (px_andr (px_andr (px_andl (px_andl (px_andl (px_andr (px_andl h))))))))))
  | n + 13, h9 => absurd h9 (by omega)⟩
set_option maxHeartbeats 4000000 in
theorem sf_2 {args : Array Value} {s : State} (h : narrow_1.before args s = true) : px_sf args s "KettleChoir" 156 26 (kt_X.2.2.1.getD 2 []) := ⟨(px_andr (px_andr (px_andl (px_andl (px_andr (px_andr (px_andl (px_andl (px_andr (px_andl h)))))))))), (px_andl (px_andr (px_andl (px_andr (px_andr (px_andl (px_andl (px_andr (px_andl h))))))))), (px_andl (px_andr (px_andr (px_andl (px_andr (px_andr (px_andl (px_andl (px_andr (px_andl h)))))))))), (px_andr (px_andr (px_andr (px_andl (px_andr (px_andr (px_andl (px_andl (px_andr (px_andl h)))))))))), fun j hj => match j, hj with
  | 0, _ => (px_andl (px_andl (px_andr (px_andr (px_andr (px_andl (px_andl (px_andr (px_andl h)))))))))
  | 1, _ => (px_andl (px_andr (px_andl (px_andr (px_andr (px_andr (px_andl (px_andl (px_andr (px_andl h))))))))))
  | 2, _ => (px_andr (px_andr (px_andl (px_andr (px_andr (px_andr (px_andl (px_andl (px_andr (px_andl h))))))))))
  | 3, _ => (px_andl (px_andl (px_andr (px_andr (px_andr (px_andr (px_andl (px_andl (px_andr (px_andl h))))))))))
  | 4, _ => (px_andr (px_andl (px_andr (px_andr (px_andr (px_andr (px_andl (px_andl (px_andr (px_andl h))))))))))
  | 5, _ => (px_andl (px_andr (px_andr (px_andr (px_andr (px_andr (px_andl (px_andl (px_andr (px_andl h))))))))))
  | 6, _ => (px_andr (px_andr (px_andr (px_andr (px_andr (px_andr (px_andl (px_andl (px_andr (px_andl h))))))))))
  | 7, _ => (px_andl (px_andl (px_andl (px_andl (px_andl (px_andr (px_andl (px_andr (px_andl h)))))))))
  | 8, _ => (px_andl (px_andr (px_andl (px_andl (px_andl (px_andl (px_andr (px_andl (px_andr (px_andl h))))))))))
  | 9, _ => (px_andr (px_andr (px_andl (px_andl (px_andl (px_andl (px_andr (px_andl (px_andr (px_andl h))))))))))
  | 10, _ => (px_andl (px_andr (px_andl (px_andl (px_andl (px_andr (px_andl (px_andr (px_andl h)))))))))
  | 11, _ => (px_andl (px_andr (px_andr (px_andl (px_andl (px_andl (px_andr (px_andl (px_andr (px_andl h))))))))))
  | 12, _ => (px_andr (px_andr (px_andr (px_andl (px_andl (px_andl (px_andr (px_andl (px_andr (px_andl h))))))))))
  | 13, _ => (px_andl (px_andl (px_andr (px_andl (px_andl (px_andr (px_andl (px_andr (px_andl h)))))))))
  | 14, _ => (px_andl (px_andr (px_andl (px_andr (px_andl (px_andl (px_andr (px_andl (px_andr (px_andl h))))))))))
  | 15, _ => (px_andr (px_andr (px_andl (px_andr (px_andl (px_andl (px_andr (px_andl (px_andr (px_andl h))))))))))
  | 16, _ => (px_andl (px_andr (px_andr (px_andl (px_andl (px_andr (px_andl (px_andr (px_andl h)))))))))
  | 17, _ => (px_andl (px_andr (px_andr (px_andr (px_andl (px_andl (px_andr (px_andl (px_andr (px_andl h))))))))))
  | 18, _ => (px_andr (px_andr (px_andr (px_andr (px_andl (px_andl (px_andr (px_andl (px_andr (px_andl h))))))))))
  | 19, _ => (px_andl (px_andl (px_andl (px_andr (px_andl (px_andr (px_andl (px_andr (px_andl h)))))))))
  | 20, _ => (px_andl (px_andr (px_andl (px_andl (px_andr (px_andl (px_andr (px_andl (px_andr (px_andl h))))))))))
  | 21, _ => (px_andr (px_andr (px_andl (px_andl (px_andr (px_andl (px_andr (px_andl (px_andr (px_andl h))))))))))
  | 22, _ => (px_andl (px_andr (px_andl (px_andr (px_andl (px_andr (px_andl (px_andr (px_andl h)))))))))
  | 23, _ => (px_andl (px_andr (px_andr (px_andl (px_andr (px_andl (px_andr (px_andl (px_andr (px_andl h))))))))))
  | 24, _ => (px_andr (px_andr (px_andr (px_andl (px_andr (px_andl (px_andr (px_andl (px_andr (px_andl h))))))))))
  | 25, _ => (px_andl (px_andl (px_andr (px_andr (px_andl (px_andr (px_andl (px_andr (px_andl h)))))))))
  | n + 26, h9 => absurd h9 (by omega)⟩
set_option maxHeartbeats 4000000 in
theorem sf_3 {args : Array Value} {s : State} (h : narrow_1.before args s = true) : px_sf args s "KettleChoir" 168 25 (kt_X.2.2.1.getD 3 []) := ⟨(px_andl (px_andr (px_andr (px_andr (px_andl (px_andr (px_andr (px_andl (px_andr (px_andl h)))))))))), (px_andr (px_andr (px_andr (px_andr (px_andl (px_andr (px_andr (px_andl (px_andr (px_andl h)))))))))), (px_andl (px_andl (px_andl (px_andr (px_andr (px_andr (px_andl (px_andr (px_andl h))))))))), (px_andl (px_andr (px_andl (px_andl (px_andr (px_andr (px_andr (px_andl (px_andr (px_andl h)))))))))), fun j hj => match j, hj with
  | 0, _ => (px_andr (px_andr (px_andl (px_andl (px_andr (px_andr (px_andr (px_andl (px_andr (px_andl h))))))))))
  | 1, _ => (px_andl (px_andr (px_andl (px_andr (px_andr (px_andr (px_andl (px_andr (px_andl h)))))))))
  | 2, _ => (px_andl (px_andr (px_andr (px_andl (px_andr (px_andr (px_andr (px_andl (px_andr (px_andl h))))))))))
  | 3, _ => (px_andr (px_andr (px_andr (px_andl (px_andr (px_andr (px_andr (px_andl (px_andr (px_andl h))))))))))
  | 4, _ => (px_andl (px_andl (px_andr (px_andr (px_andr (px_andr (px_andl (px_andr (px_andl h)))))))))
  | 5, _ => (px_andl (px_andr (px_andl (px_andr (px_andr (px_andr (px_andr (px_andl (px_andr (px_andl h))))))))))
  | 6, _ => (px_andr (px_andr (px_andl (px_andr (px_andr (px_andr (px_andr (px_andl (px_andr (px_andl h))))))))))
  | 7, _ => (px_andl (px_andl (px_andr (px_andr (px_andr (px_andr (px_andr (px_andl (px_andr (px_andl h))))))))))
  | 8, _ => (px_andr (px_andl (px_andr (px_andr (px_andr (px_andr (px_andr (px_andl (px_andr (px_andl h))))))))))
  | 9, _ => (px_andl (px_andr (px_andr (px_andr (px_andr (px_andr (px_andr (px_andl (px_andr (px_andl h))))))))))
  | 10, _ => (px_andr (px_andr (px_andr (px_andr (px_andr (px_andr (px_andr (px_andl (px_andr (px_andl h))))))))))
  | 11, _ => (px_andl (px_andl (px_andl (px_andl (px_andl (px_andl (px_andr (px_andr (px_andl h)))))))))
  | 12, _ => (px_andl (px_andr (px_andl (px_andl (px_andl (px_andl (px_andl (px_andr (px_andr (px_andl h))))))))))
  | 13, _ => (px_andr (px_andr (px_andl (px_andl (px_andl (px_andl (px_andl (px_andr (px_andr (px_andl h))))))))))
  | 14, _ => (px_andl (px_andr (px_andl (px_andl (px_andl (px_andl (px_andr (px_andr (px_andl h)))))))))
  | 15, _ => (px_andl (px_andr (px_andr (px_andl (px_andl (px_andl (px_andl (px_andr (px_andr (px_andl h))))))))))
  | 16, _ => (px_andr (px_andr (px_andr (px_andl (px_andl (px_andl (px_andl (px_andr (px_andr (px_andl h))))))))))
  | 17, _ => (px_andl (px_andl (px_andr (px_andl (px_andl (px_andl (px_andr (px_andr (px_andl h)))))))))
  | 18, _ => (px_andl (px_andr (px_andl (px_andr (px_andl (px_andl (px_andl (px_andr (px_andr (px_andl h))))))))))
  | 19, _ => (px_andr (px_andr (px_andl (px_andr (px_andl (px_andl (px_andl (px_andr (px_andr (px_andl h))))))))))
  | 20, _ => (px_andl (px_andr (px_andr (px_andl (px_andl (px_andl (px_andr (px_andr (px_andl h)))))))))
  | 21, _ => (px_andl (px_andr (px_andr (px_andr (px_andl (px_andl (px_andl (px_andr (px_andr (px_andl h))))))))))
  | 22, _ => (px_andr (px_andr (px_andr (px_andr (px_andl (px_andl (px_andl (px_andr (px_andr (px_andl h))))))))))
  | 23, _ => (px_andl (px_andl (px_andl (px_andr (px_andl (px_andl (px_andr (px_andr (px_andl h)))))))))
  | 24, _ => (px_andl (px_andr (px_andl (px_andl (px_andr (px_andl (px_andl (px_andr (px_andr (px_andl h))))))))))
  | n + 25, h9 => absurd h9 (by omega)⟩
set_option maxHeartbeats 4000000 in
theorem sf_4 {args : Array Value} {s : State} (h : narrow_1.before args s = true) : px_sf args s "KettleChoir" 176 12 (kt_X.2.2.1.getD 4 []) := ⟨(px_andr (px_andr (px_andr (px_andl (px_andl (px_andr (px_andl (px_andr (px_andr (px_andl h)))))))))), (px_andl (px_andl (px_andr (px_andl (px_andr (px_andl (px_andr (px_andr (px_andl h))))))))), (px_andl (px_andr (px_andl (px_andr (px_andl (px_andr (px_andl (px_andr (px_andr (px_andl h)))))))))), (px_andr (px_andr (px_andl (px_andr (px_andl (px_andr (px_andl (px_andr (px_andr (px_andl h)))))))))), fun j hj => match j, hj with
  | 0, _ => (px_andl (px_andl (px_andr (px_andr (px_andl (px_andr (px_andl (px_andr (px_andr (px_andl h))))))))))
  | 1, _ => (px_andr (px_andl (px_andr (px_andr (px_andl (px_andr (px_andl (px_andr (px_andr (px_andl h))))))))))
  | 2, _ => (px_andl (px_andr (px_andr (px_andr (px_andl (px_andr (px_andl (px_andr (px_andr (px_andl h))))))))))
  | 3, _ => (px_andr (px_andr (px_andr (px_andr (px_andl (px_andr (px_andl (px_andr (px_andr (px_andl h))))))))))
  | 4, _ => (px_andl (px_andl (px_andl (px_andr (px_andr (px_andl (px_andr (px_andr (px_andl h)))))))))
  | 5, _ => (px_andl (px_andr (px_andl (px_andl (px_andr (px_andr (px_andl (px_andr (px_andr (px_andl h))))))))))
  | 6, _ => (px_andr (px_andr (px_andl (px_andl (px_andr (px_andr (px_andl (px_andr (px_andr (px_andl h))))))))))
  | 7, _ => (px_andl (px_andr (px_andl (px_andr (px_andr (px_andl (px_andr (px_andr (px_andl h)))))))))
  | 8, _ => (px_andl (px_andr (px_andr (px_andl (px_andr (px_andr (px_andl (px_andr (px_andr (px_andl h))))))))))
  | 9, _ => (px_andr (px_andr (px_andr (px_andl (px_andr (px_andr (px_andl (px_andr (px_andr (px_andl h))))))))))
  | 10, _ => (px_andl (px_andl (px_andr (px_andr (px_andr (px_andl (px_andr (px_andr (px_andl h)))))))))
  | 11, _ => (px_andl (px_andr (px_andl (px_andr (px_andr (px_andr (px_andl (px_andr (px_andr (px_andl h))))))))))
  | n + 12, h9 => absurd h9 (by omega)⟩
set_option maxHeartbeats 4000000 in
theorem sf_5 {args : Array Value} {s : State} (h : narrow_1.before args s = true) : px_sf args s "KettleChoir" 196 18 (kt_X.2.2.1.getD 5 []) := ⟨(px_andl (px_andl (px_andr (px_andr (px_andl (px_andr (px_andr (px_andr (px_andl h))))))))), (px_andl (px_andr (px_andl (px_andr (px_andr (px_andl (px_andr (px_andr (px_andr (px_andl h)))))))))), (px_andr (px_andr (px_andl (px_andr (px_andr (px_andl (px_andr (px_andr (px_andr (px_andl h)))))))))), (px_andl (px_andl (px_andr (px_andr (px_andr (px_andl (px_andr (px_andr (px_andr (px_andl h)))))))))), fun j hj => match j, hj with
  | 0, _ => (px_andr (px_andl (px_andr (px_andr (px_andr (px_andl (px_andr (px_andr (px_andr (px_andl h))))))))))
  | 1, _ => (px_andl (px_andr (px_andr (px_andr (px_andr (px_andl (px_andr (px_andr (px_andr (px_andl h))))))))))
  | 2, _ => (px_andr (px_andr (px_andr (px_andr (px_andr (px_andl (px_andr (px_andr (px_andr (px_andl h))))))))))
  | 3, _ => (px_andl (px_andl (px_andl (px_andl (px_andr (px_andr (px_andr (px_andr (px_andl h)))))))))
  | 4, _ => (px_andl (px_andr (px_andl (px_andl (px_andl (px_andr (px_andr (px_andr (px_andr (px_andl h))))))))))
  | 5, _ => (px_andr (px_andr (px_andl (px_andl (px_andl (px_andr (px_andr (px_andr (px_andr (px_andl h))))))))))
  | 6, _ => (px_andl (px_andr (px_andl (px_andl (px_andr (px_andr (px_andr (px_andr (px_andl h)))))))))
  | 7, _ => (px_andl (px_andr (px_andr (px_andl (px_andl (px_andr (px_andr (px_andr (px_andr (px_andl h))))))))))
  | 8, _ => (px_andr (px_andr (px_andr (px_andl (px_andl (px_andr (px_andr (px_andr (px_andr (px_andl h))))))))))
  | 9, _ => (px_andl (px_andl (px_andr (px_andl (px_andr (px_andr (px_andr (px_andr (px_andl h)))))))))
  | 10, _ => (px_andl (px_andr (px_andl (px_andr (px_andl (px_andr (px_andr (px_andr (px_andr (px_andl h))))))))))
  | 11, _ => (px_andr (px_andr (px_andl (px_andr (px_andl (px_andr (px_andr (px_andr (px_andr (px_andl h))))))))))
  | 12, _ => (px_andl (px_andl (px_andr (px_andr (px_andl (px_andr (px_andr (px_andr (px_andr (px_andl h))))))))))
  | 13, _ => (px_andr (px_andl (px_andr (px_andr (px_andl (px_andr (px_andr (px_andr (px_andr (px_andl h))))))))))
  | 14, _ => (px_andl (px_andr (px_andr (px_andr (px_andl (px_andr (px_andr (px_andr (px_andr (px_andl h))))))))))
  | 15, _ => (px_andr (px_andr (px_andr (px_andr (px_andl (px_andr (px_andr (px_andr (px_andr (px_andl h))))))))))
  | 16, _ => (px_andl (px_andl (px_andl (px_andr (px_andr (px_andr (px_andr (px_andr (px_andl h)))))))))
  | 17, _ => (px_andl (px_andr (px_andl (px_andl (px_andr (px_andr (px_andr (px_andr (px_andr (px_andl h))))))))))
  | n + 18, h9 => absurd h9 (by omega)⟩
set_option maxHeartbeats 4000000 in
theorem sf_6 {args : Array Value} {s : State} (h : narrow_1.before args s = true) : px_sf args s "KettleChoir" 201 36 (kt_X.2.2.1.getD 6 []) := ⟨(px_andr (px_andr (px_andl (px_andl (px_andr (px_andr (px_andr (px_andr (px_andr (px_andl h)))))))))), (px_andl (px_andr (px_andl (px_andr (px_andr (px_andr (px_andr (px_andr (px_andl h))))))))), (px_andl (px_andr (px_andr (px_andl (px_andr (px_andr (px_andr (px_andr (px_andr (px_andl h)))))))))), (px_andr (px_andr (px_andr (px_andl (px_andr (px_andr (px_andr (px_andr (px_andr (px_andl h)))))))))), fun j hj => match j, hj with
  | 0, _ => (px_andl (px_andl (px_andr (px_andr (px_andr (px_andr (px_andr (px_andr (px_andl h)))))))))
  | 1, _ => (px_andl (px_andr (px_andl (px_andr (px_andr (px_andr (px_andr (px_andr (px_andr (px_andl h))))))))))
  | 2, _ => (px_andr (px_andr (px_andl (px_andr (px_andr (px_andr (px_andr (px_andr (px_andr (px_andl h))))))))))
  | 3, _ => (px_andl (px_andl (px_andr (px_andr (px_andr (px_andr (px_andr (px_andr (px_andr (px_andl h))))))))))
  | 4, _ => (px_andr (px_andl (px_andr (px_andr (px_andr (px_andr (px_andr (px_andr (px_andr (px_andl h))))))))))
  | 5, _ => (px_andl (px_andr (px_andr (px_andr (px_andr (px_andr (px_andr (px_andr (px_andr (px_andl h))))))))))
  | 6, _ => (px_andr (px_andr (px_andr (px_andr (px_andr (px_andr (px_andr (px_andr (px_andr (px_andl h))))))))))
  | 7, _ => (px_andl (px_andl (px_andl (px_andl (px_andl (px_andl (px_andl (px_andl (px_andr h)))))))))
  | 8, _ => (px_andl (px_andr (px_andl (px_andl (px_andl (px_andl (px_andl (px_andl (px_andl (px_andr h))))))))))
  | 9, _ => (px_andr (px_andr (px_andl (px_andl (px_andl (px_andl (px_andl (px_andl (px_andl (px_andr h))))))))))
  | 10, _ => (px_andl (px_andr (px_andl (px_andl (px_andl (px_andl (px_andl (px_andl (px_andr h)))))))))
  | 11, _ => (px_andl (px_andr (px_andr (px_andl (px_andl (px_andl (px_andl (px_andl (px_andl (px_andr h))))))))))
  | 12, _ => (px_andr (px_andr (px_andr (px_andl (px_andl (px_andl (px_andl (px_andl (px_andl (px_andr h))))))))))
  | 13, _ => (px_andl (px_andl (px_andr (px_andl (px_andl (px_andl (px_andl (px_andl (px_andr h)))))))))
  | 14, _ => (px_andl (px_andr (px_andl (px_andr (px_andl (px_andl (px_andl (px_andl (px_andl (px_andr h))))))))))
  | 15, _ => (px_andr (px_andr (px_andl (px_andr (px_andl (px_andl (px_andl (px_andl (px_andl (px_andr h))))))))))
  | 16, _ => (px_andl (px_andr (px_andr (px_andl (px_andl (px_andl (px_andl (px_andl (px_andr h)))))))))
  | 17, _ => (px_andl (px_andr (px_andr (px_andr (px_andl (px_andl (px_andl (px_andl (px_andl (px_andr h))))))))))
  | 18, _ => (px_andr (px_andr (px_andr (px_andr (px_andl (px_andl (px_andl (px_andl (px_andl (px_andr h))))))))))
  | 19, _ => (px_andl (px_andl (px_andl (px_andr (px_andl (px_andl (px_andl (px_andl (px_andr h)))))))))
  | 20, _ => (px_andl (px_andr (px_andl (px_andl (px_andr (px_andl (px_andl (px_andl (px_andl (px_andr h))))))))))
  | 21, _ => (px_andr (px_andr (px_andl (px_andl (px_andr (px_andl (px_andl (px_andl (px_andl (px_andr h))))))))))
  | 22, _ => (px_andl (px_andr (px_andl (px_andr (px_andl (px_andl (px_andl (px_andl (px_andr h)))))))))
  | 23, _ => (px_andl (px_andr (px_andr (px_andl (px_andr (px_andl (px_andl (px_andl (px_andl (px_andr h))))))))))
  | 24, _ => (px_andr (px_andr (px_andr (px_andl (px_andr (px_andl (px_andl (px_andl (px_andl (px_andr h))))))))))
  | 25, _ => (px_andl (px_andl (px_andr (px_andr (px_andl (px_andl (px_andl (px_andl (px_andr h)))))))))
  | 26, _ => (px_andl (px_andr (px_andl (px_andr (px_andr (px_andl (px_andl (px_andl (px_andl (px_andr h))))))))))
  | 27, _ => (px_andr (px_andr (px_andl (px_andr (px_andr (px_andl (px_andl (px_andl (px_andl (px_andr h))))))))))
  | 28, _ => (px_andl (px_andl (px_andr (px_andr (px_andr (px_andl (px_andl (px_andl (px_andl (px_andr h))))))))))
  | 29, _ => (px_andr (px_andl (px_andr (px_andr (px_andr (px_andl (px_andl (px_andl (px_andl (px_andr h))))))))))
  | 30, _ => (px_andl (px_andr (px_andr (px_andr (px_andr (px_andl (px_andl (px_andl (px_andl (px_andr h))))))))))
  | 31, _ => (px_andr (px_andr (px_andr (px_andr (px_andr (px_andl (px_andl (px_andl (px_andl (px_andr h))))))))))
  | 32, _ => (px_andl (px_andl (px_andl (px_andl (px_andr (px_andl (px_andl (px_andl (px_andr h)))))))))
  | 33, _ => (px_andl (px_andr (px_andl (px_andl (px_andl (px_andr (px_andl (px_andl (px_andl (px_andr h))))))))))
  | 34, _ => (px_andr (px_andr (px_andl (px_andl (px_andl (px_andr (px_andl (px_andl (px_andl (px_andr h))))))))))
  | 35, _ => (px_andl (px_andr (px_andl (px_andl (px_andr (px_andl (px_andl (px_andl (px_andr h)))))))))
  | n + 36, h9 => absurd h9 (by omega)⟩
set_option maxHeartbeats 4000000 in
theorem sf_7 {args : Array Value} {s : State} (h : narrow_1.before args s = true) : px_sf args s "KettleChoir" 213 10 (kt_X.2.2.1.getD 7 []) := ⟨(px_andl (px_andr (px_andr (px_andl (px_andl (px_andr (px_andl (px_andl (px_andl (px_andr h)))))))))), (px_andr (px_andr (px_andr (px_andl (px_andl (px_andr (px_andl (px_andl (px_andl (px_andr h)))))))))), (px_andl (px_andl (px_andr (px_andl (px_andr (px_andl (px_andl (px_andl (px_andr h))))))))), (px_andl (px_andr (px_andl (px_andr (px_andl (px_andr (px_andl (px_andl (px_andl (px_andr h)))))))))), fun j hj => match j, hj with
  | 0, _ => (px_andr (px_andr (px_andl (px_andr (px_andl (px_andr (px_andl (px_andl (px_andl (px_andr h))))))))))
  | 1, _ => (px_andl (px_andl (px_andr (px_andr (px_andl (px_andr (px_andl (px_andl (px_andl (px_andr h))))))))))
  | 2, _ => (px_andr (px_andl (px_andr (px_andr (px_andl (px_andr (px_andl (px_andl (px_andl (px_andr h))))))))))
  | 3, _ => (px_andl (px_andr (px_andr (px_andr (px_andl (px_andr (px_andl (px_andl (px_andl (px_andr h))))))))))
  | 4, _ => (px_andr (px_andr (px_andr (px_andr (px_andl (px_andr (px_andl (px_andl (px_andl (px_andr h))))))))))
  | 5, _ => (px_andl (px_andl (px_andl (px_andr (px_andr (px_andl (px_andl (px_andl (px_andr h)))))))))
  | 6, _ => (px_andl (px_andr (px_andl (px_andl (px_andr (px_andr (px_andl (px_andl (px_andl (px_andr h))))))))))
  | 7, _ => (px_andr (px_andr (px_andl (px_andl (px_andr (px_andr (px_andl (px_andl (px_andl (px_andr h))))))))))
  | 8, _ => (px_andl (px_andr (px_andl (px_andr (px_andr (px_andl (px_andl (px_andl (px_andr h)))))))))
  | 9, _ => (px_andl (px_andr (px_andr (px_andl (px_andr (px_andr (px_andl (px_andl (px_andl (px_andr h))))))))))
  | n + 10, h9 => absurd h9 (by omega)⟩
set_option maxHeartbeats 4000000 in
theorem sf_8 {args : Array Value} {s : State} (h : narrow_1.before args s = true) : px_sf args s "KettleChoir" 231 42 (kt_X.2.2.1.getD 8 []) := ⟨(px_andr (px_andr (px_andr (px_andl (px_andr (px_andr (px_andl (px_andl (px_andl (px_andr h)))))))))), (px_andl (px_andl (px_andr (px_andr (px_andr (px_andl (px_andl (px_andl (px_andr h))))))))), (px_andl (px_andr (px_andl (px_andr (px_andr (px_andr (px_andl (px_andl (px_andl (px_andr h)))))))))), (px_andr (px_andr (px_andl (px_andr (px_andr (px_andr (px_andl (px_andl (px_andl (px_andr h)))))))))), fun j hj => match j, hj with
  | 0, _ => (px_andl (px_andl (px_andr (px_andr (px_andr (px_andr (px_andl (px_andl (px_andl (px_andr h))))))))))
  | 1, _ => (px_andr (px_andl (px_andr (px_andr (px_andr (px_andr (px_andl (px_andl (px_andl (px_andr h))))))))))
  | 2, _ => (px_andl (px_andr (px_andr (px_andr (px_andr (px_andr (px_andl (px_andl (px_andl (px_andr h))))))))))
  | 3, _ => (px_andr (px_andr (px_andr (px_andr (px_andr (px_andr (px_andl (px_andl (px_andl (px_andr h))))))))))
  | 4, _ => (px_andl (px_andl (px_andl (px_andl (px_andl (px_andr (px_andl (px_andl (px_andr h)))))))))
  | 5, _ => (px_andl (px_andr (px_andl (px_andl (px_andl (px_andl (px_andr (px_andl (px_andl (px_andr h))))))))))
  | 6, _ => (px_andr (px_andr (px_andl (px_andl (px_andl (px_andl (px_andr (px_andl (px_andl (px_andr h))))))))))
  | 7, _ => (px_andl (px_andr (px_andl (px_andl (px_andl (px_andr (px_andl (px_andl (px_andr h)))))))))
  | 8, _ => (px_andl (px_andr (px_andr (px_andl (px_andl (px_andl (px_andr (px_andl (px_andl (px_andr h))))))))))
  | 9, _ => (px_andr (px_andr (px_andr (px_andl (px_andl (px_andl (px_andr (px_andl (px_andl (px_andr h))))))))))
  | 10, _ => (px_andl (px_andl (px_andr (px_andl (px_andl (px_andr (px_andl (px_andl (px_andr h)))))))))
  | 11, _ => (px_andl (px_andr (px_andl (px_andr (px_andl (px_andl (px_andr (px_andl (px_andl (px_andr h))))))))))
  | 12, _ => (px_andr (px_andr (px_andl (px_andr (px_andl (px_andl (px_andr (px_andl (px_andl (px_andr h))))))))))
  | 13, _ => (px_andl (px_andr (px_andr (px_andl (px_andl (px_andr (px_andl (px_andl (px_andr h)))))))))
  | 14, _ => (px_andl (px_andr (px_andr (px_andr (px_andl (px_andl (px_andr (px_andl (px_andl (px_andr h))))))))))
  | 15, _ => (px_andr (px_andr (px_andr (px_andr (px_andl (px_andl (px_andr (px_andl (px_andl (px_andr h))))))))))
  | 16, _ => (px_andl (px_andl (px_andl (px_andr (px_andl (px_andr (px_andl (px_andl (px_andr h)))))))))
  | 17, _ => (px_andl (px_andr (px_andl (px_andl (px_andr (px_andl (px_andr (px_andl (px_andl (px_andr h))))))))))
  | 18, _ => (px_andr (px_andr (px_andl (px_andl (px_andr (px_andl (px_andr (px_andl (px_andl (px_andr h))))))))))
  | 19, _ => (px_andl (px_andr (px_andl (px_andr (px_andl (px_andr (px_andl (px_andl (px_andr h)))))))))
  | 20, _ => (px_andl (px_andr (px_andr (px_andl (px_andr (px_andl (px_andr (px_andl (px_andl (px_andr h))))))))))
  | 21, _ => (px_andr (px_andr (px_andr (px_andl (px_andr (px_andl (px_andr (px_andl (px_andl (px_andr h))))))))))
  | 22, _ => (px_andl (px_andl (px_andr (px_andr (px_andl (px_andr (px_andl (px_andl (px_andr h)))))))))
  | 23, _ => (px_andl (px_andr (px_andl (px_andr (px_andr (px_andl (px_andr (px_andl (px_andl (px_andr h))))))))))
  | 24, _ => (px_andr (px_andr (px_andl (px_andr (px_andr (px_andl (px_andr (px_andl (px_andl (px_andr h))))))))))
  | 25, _ => (px_andl (px_andl (px_andr (px_andr (px_andr (px_andl (px_andr (px_andl (px_andl (px_andr h))))))))))
  | 26, _ => (px_andr (px_andl (px_andr (px_andr (px_andr (px_andl (px_andr (px_andl (px_andl (px_andr h))))))))))
  | 27, _ => (px_andl (px_andr (px_andr (px_andr (px_andr (px_andl (px_andr (px_andl (px_andl (px_andr h))))))))))
  | 28, _ => (px_andr (px_andr (px_andr (px_andr (px_andr (px_andl (px_andr (px_andl (px_andl (px_andr h))))))))))
  | 29, _ => (px_andl (px_andl (px_andl (px_andl (px_andr (px_andr (px_andl (px_andl (px_andr h)))))))))
  | 30, _ => (px_andl (px_andr (px_andl (px_andl (px_andl (px_andr (px_andr (px_andl (px_andl (px_andr h))))))))))
  | 31, _ => (px_andr (px_andr (px_andl (px_andl (px_andl (px_andr (px_andr (px_andl (px_andl (px_andr h))))))))))
  | 32, _ => (px_andl (px_andr (px_andl (px_andl (px_andr (px_andr (px_andl (px_andl (px_andr h)))))))))
  | 33, _ => (px_andl (px_andr (px_andr (px_andl (px_andl (px_andr (px_andr (px_andl (px_andl (px_andr h))))))))))
  | 34, _ => (px_andr (px_andr (px_andr (px_andl (px_andl (px_andr (px_andr (px_andl (px_andl (px_andr h))))))))))
  | 35, _ => (px_andl (px_andl (px_andr (px_andl (px_andr (px_andr (px_andl (px_andl (px_andr h)))))))))
  | 36, _ => (px_andl (px_andr (px_andl (px_andr (px_andl (px_andr (px_andr (px_andl (px_andl (px_andr h))))))))))
  | 37, _ => (px_andr (px_andr (px_andl (px_andr (px_andl (px_andr (px_andr (px_andl (px_andl (px_andr h))))))))))
  | 38, _ => (px_andl (px_andl (px_andr (px_andr (px_andl (px_andr (px_andr (px_andl (px_andl (px_andr h))))))))))
  | 39, _ => (px_andr (px_andl (px_andr (px_andr (px_andl (px_andr (px_andr (px_andl (px_andl (px_andr h))))))))))
  | 40, _ => (px_andl (px_andr (px_andr (px_andr (px_andl (px_andr (px_andr (px_andl (px_andl (px_andr h))))))))))
  | 41, _ => (px_andr (px_andr (px_andr (px_andr (px_andl (px_andr (px_andr (px_andl (px_andl (px_andr h))))))))))
  | n + 42, h9 => absurd h9 (by omega)⟩
set_option maxHeartbeats 4000000 in
theorem sf_9 {args : Array Value} {s : State} (h : narrow_1.before args s = true) : px_sf args s "KettleChoir" 246 27 (kt_X.2.2.1.getD 9 []) := ⟨(px_andl (px_andl (px_andl (px_andr (px_andr (px_andr (px_andl (px_andl (px_andr h))))))))), (px_andl (px_andr (px_andl (px_andl (px_andr (px_andr (px_andr (px_andl (px_andl (px_andr h)))))))))), (px_andr (px_andr (px_andl (px_andl (px_andr (px_andr (px_andr (px_andl (px_andl (px_andr h)))))))))), (px_andl (px_andr (px_andl (px_andr (px_andr (px_andr (px_andl (px_andl (px_andr h))))))))), fun j hj => match j, hj with
  | 0, _ => (px_andl (px_andr (px_andr (px_andl (px_andr (px_andr (px_andr (px_andl (px_andl (px_andr h))))))))))
  | 1, _ => (px_andr (px_andr (px_andr (px_andl (px_andr (px_andr (px_andr (px_andl (px_andl (px_andr h))))))))))
  | 2, _ => (px_andl (px_andl (px_andr (px_andr (px_andr (px_andr (px_andl (px_andl (px_andr h)))))))))
  | 3, _ => (px_andl (px_andr (px_andl (px_andr (px_andr (px_andr (px_andr (px_andl (px_andl (px_andr h))))))))))
  | 4, _ => (px_andr (px_andr (px_andl (px_andr (px_andr (px_andr (px_andr (px_andl (px_andl (px_andr h))))))))))
  | 5, _ => (px_andl (px_andl (px_andr (px_andr (px_andr (px_andr (px_andr (px_andl (px_andl (px_andr h))))))))))
  | 6, _ => (px_andr (px_andl (px_andr (px_andr (px_andr (px_andr (px_andr (px_andl (px_andl (px_andr h))))))))))
  | 7, _ => (px_andl (px_andr (px_andr (px_andr (px_andr (px_andr (px_andr (px_andl (px_andl (px_andr h))))))))))
  | 8, _ => (px_andr (px_andr (px_andr (px_andr (px_andr (px_andr (px_andr (px_andl (px_andl (px_andr h))))))))))
  | 9, _ => (px_andl (px_andl (px_andl (px_andl (px_andl (px_andl (px_andr (px_andl (px_andr h)))))))))
  | 10, _ => (px_andl (px_andr (px_andl (px_andl (px_andl (px_andl (px_andl (px_andr (px_andl (px_andr h))))))))))
  | 11, _ => (px_andr (px_andr (px_andl (px_andl (px_andl (px_andl (px_andl (px_andr (px_andl (px_andr h))))))))))
  | 12, _ => (px_andl (px_andr (px_andl (px_andl (px_andl (px_andl (px_andr (px_andl (px_andr h)))))))))
  | 13, _ => (px_andl (px_andr (px_andr (px_andl (px_andl (px_andl (px_andl (px_andr (px_andl (px_andr h))))))))))
  | 14, _ => (px_andr (px_andr (px_andr (px_andl (px_andl (px_andl (px_andl (px_andr (px_andl (px_andr h))))))))))
  | 15, _ => (px_andl (px_andl (px_andr (px_andl (px_andl (px_andl (px_andr (px_andl (px_andr h)))))))))
  | 16, _ => (px_andl (px_andr (px_andl (px_andr (px_andl (px_andl (px_andl (px_andr (px_andl (px_andr h))))))))))
  | 17, _ => (px_andr (px_andr (px_andl (px_andr (px_andl (px_andl (px_andl (px_andr (px_andl (px_andr h))))))))))
  | 18, _ => (px_andl (px_andr (px_andr (px_andl (px_andl (px_andl (px_andr (px_andl (px_andr h)))))))))
  | 19, _ => (px_andl (px_andr (px_andr (px_andr (px_andl (px_andl (px_andl (px_andr (px_andl (px_andr h))))))))))
  | 20, _ => (px_andr (px_andr (px_andr (px_andr (px_andl (px_andl (px_andl (px_andr (px_andl (px_andr h))))))))))
  | 21, _ => (px_andl (px_andl (px_andl (px_andr (px_andl (px_andl (px_andr (px_andl (px_andr h)))))))))
  | 22, _ => (px_andl (px_andr (px_andl (px_andl (px_andr (px_andl (px_andl (px_andr (px_andl (px_andr h))))))))))
  | 23, _ => (px_andr (px_andr (px_andl (px_andl (px_andr (px_andl (px_andl (px_andr (px_andl (px_andr h))))))))))
  | 24, _ => (px_andl (px_andr (px_andl (px_andr (px_andl (px_andl (px_andr (px_andl (px_andr h)))))))))
  | 25, _ => (px_andl (px_andr (px_andr (px_andl (px_andr (px_andl (px_andl (px_andr (px_andl (px_andr h))))))))))
  | 26, _ => (px_andr (px_andr (px_andr (px_andl (px_andr (px_andl (px_andl (px_andr (px_andl (px_andr h))))))))))
  | n + 27, h9 => absurd h9 (by omega)⟩
set_option maxHeartbeats 4000000 in
theorem sf_10 {args : Array Value} {s : State} (h : narrow_1.before args s = true) : px_sf args s "KettleChoir" 260 27 (kt_X.2.2.1.getD 10 []) := ⟨(px_andl (px_andl (px_andr (px_andr (px_andl (px_andl (px_andr (px_andl (px_andr h))))))))), (px_andl (px_andr (px_andl (px_andr (px_andr (px_andl (px_andl (px_andr (px_andl (px_andr h)))))))))), (px_andr (px_andr (px_andl (px_andr (px_andr (px_andl (px_andl (px_andr (px_andl (px_andr h)))))))))), (px_andl (px_andl (px_andr (px_andr (px_andr (px_andl (px_andl (px_andr (px_andl (px_andr h)))))))))), fun j hj => match j, hj with
  | 0, _ => (px_andr (px_andl (px_andr (px_andr (px_andr (px_andl (px_andl (px_andr (px_andl (px_andr h))))))))))
  | 1, _ => (px_andl (px_andr (px_andr (px_andr (px_andr (px_andl (px_andl (px_andr (px_andl (px_andr h))))))))))
  | 2, _ => (px_andr (px_andr (px_andr (px_andr (px_andr (px_andl (px_andl (px_andr (px_andl (px_andr h))))))))))
  | 3, _ => (px_andl (px_andl (px_andl (px_andl (px_andr (px_andl (px_andr (px_andl (px_andr h)))))))))
  | 4, _ => (px_andl (px_andr (px_andl (px_andl (px_andl (px_andr (px_andl (px_andr (px_andl (px_andr h))))))))))
  | 5, _ => (px_andr (px_andr (px_andl (px_andl (px_andl (px_andr (px_andl (px_andr (px_andl (px_andr h))))))))))
  | 6, _ => (px_andl (px_andr (px_andl (px_andl (px_andr (px_andl (px_andr (px_andl (px_andr h)))))))))
  | 7, _ => (px_andl (px_andr (px_andr (px_andl (px_andl (px_andr (px_andl (px_andr (px_andl (px_andr h))))))))))
  | 8, _ => (px_andr (px_andr (px_andr (px_andl (px_andl (px_andr (px_andl (px_andr (px_andl (px_andr h))))))))))
  | 9, _ => (px_andl (px_andl (px_andr (px_andl (px_andr (px_andl (px_andr (px_andl (px_andr h)))))))))
  | 10, _ => (px_andl (px_andr (px_andl (px_andr (px_andl (px_andr (px_andl (px_andr (px_andl (px_andr h))))))))))
  | 11, _ => (px_andr (px_andr (px_andl (px_andr (px_andl (px_andr (px_andl (px_andr (px_andl (px_andr h))))))))))
  | 12, _ => (px_andl (px_andl (px_andr (px_andr (px_andl (px_andr (px_andl (px_andr (px_andl (px_andr h))))))))))
  | 13, _ => (px_andr (px_andl (px_andr (px_andr (px_andl (px_andr (px_andl (px_andr (px_andl (px_andr h))))))))))
  | 14, _ => (px_andl (px_andr (px_andr (px_andr (px_andl (px_andr (px_andl (px_andr (px_andl (px_andr h))))))))))
  | 15, _ => (px_andr (px_andr (px_andr (px_andr (px_andl (px_andr (px_andl (px_andr (px_andl (px_andr h))))))))))
  | 16, _ => (px_andl (px_andl (px_andl (px_andr (px_andr (px_andl (px_andr (px_andl (px_andr h)))))))))
  | 17, _ => (px_andl (px_andr (px_andl (px_andl (px_andr (px_andr (px_andl (px_andr (px_andl (px_andr h))))))))))
  | 18, _ => (px_andr (px_andr (px_andl (px_andl (px_andr (px_andr (px_andl (px_andr (px_andl (px_andr h))))))))))
  | 19, _ => (px_andl (px_andr (px_andl (px_andr (px_andr (px_andl (px_andr (px_andl (px_andr h)))))))))
  | 20, _ => (px_andl (px_andr (px_andr (px_andl (px_andr (px_andr (px_andl (px_andr (px_andl (px_andr h))))))))))
  | 21, _ => (px_andr (px_andr (px_andr (px_andl (px_andr (px_andr (px_andl (px_andr (px_andl (px_andr h))))))))))
  | 22, _ => (px_andl (px_andl (px_andr (px_andr (px_andr (px_andl (px_andr (px_andl (px_andr h)))))))))
  | 23, _ => (px_andl (px_andr (px_andl (px_andr (px_andr (px_andr (px_andl (px_andr (px_andl (px_andr h))))))))))
  | 24, _ => (px_andr (px_andr (px_andl (px_andr (px_andr (px_andr (px_andl (px_andr (px_andl (px_andr h))))))))))
  | 25, _ => (px_andl (px_andl (px_andr (px_andr (px_andr (px_andr (px_andl (px_andr (px_andl (px_andr h))))))))))
  | 26, _ => (px_andr (px_andl (px_andr (px_andr (px_andr (px_andr (px_andl (px_andr (px_andl (px_andr h))))))))))
  | n + 27, h9 => absurd h9 (by omega)⟩
set_option maxHeartbeats 4000000 in
theorem sf_11 {args : Array Value} {s : State} (h : narrow_1.before args s = true) : px_sf args s "KettleChoir" 268 24 (kt_X.2.2.1.getD 11 []) := ⟨(px_andl (px_andr (px_andr (px_andr (px_andr (px_andr (px_andl (px_andr (px_andl (px_andr h)))))))))), (px_andr (px_andr (px_andr (px_andr (px_andr (px_andr (px_andl (px_andr (px_andl (px_andr h)))))))))), (px_andl (px_andl (px_andl (px_andl (px_andl (px_andr (px_andr (px_andl (px_andr h))))))))), (px_andl (px_andr (px_andl (px_andl (px_andl (px_andl (px_andr (px_andr (px_andl (px_andr h)))))))))), fun j hj => match j, hj with
  | 0, _ => (px_andr (px_andr (px_andl (px_andl (px_andl (px_andl (px_andr (px_andr (px_andl (px_andr h))))))))))
  | 1, _ => (px_andl (px_andr (px_andl (px_andl (px_andl (px_andr (px_andr (px_andl (px_andr h)))))))))
  | 2, _ => (px_andl (px_andr (px_andr (px_andl (px_andl (px_andl (px_andr (px_andr (px_andl (px_andr h))))))))))
  | 3, _ => (px_andr (px_andr (px_andr (px_andl (px_andl (px_andl (px_andr (px_andr (px_andl (px_andr h))))))))))
  | 4, _ => (px_andl (px_andl (px_andr (px_andl (px_andl (px_andr (px_andr (px_andl (px_andr h)))))))))
  | 5, _ => (px_andl (px_andr (px_andl (px_andr (px_andl (px_andl (px_andr (px_andr (px_andl (px_andr h))))))))))
  | 6, _ => (px_andr (px_andr (px_andl (px_andr (px_andl (px_andl (px_andr (px_andr (px_andl (px_andr h))))))))))
  | 7, _ => (px_andl (px_andr (px_andr (px_andl (px_andl (px_andr (px_andr (px_andl (px_andr h)))))))))
  | 8, _ => (px_andl (px_andr (px_andr (px_andr (px_andl (px_andl (px_andr (px_andr (px_andl (px_andr h))))))))))
  | 9, _ => (px_andr (px_andr (px_andr (px_andr (px_andl (px_andl (px_andr (px_andr (px_andl (px_andr h))))))))))
  | 10, _ => (px_andl (px_andl (px_andl (px_andr (px_andl (px_andr (px_andr (px_andl (px_andr h)))))))))
  | 11, _ => (px_andl (px_andr (px_andl (px_andl (px_andr (px_andl (px_andr (px_andr (px_andl (px_andr h))))))))))
  | 12, _ => (px_andr (px_andr (px_andl (px_andl (px_andr (px_andl (px_andr (px_andr (px_andl (px_andr h))))))))))
  | 13, _ => (px_andl (px_andr (px_andl (px_andr (px_andl (px_andr (px_andr (px_andl (px_andr h)))))))))
  | 14, _ => (px_andl (px_andr (px_andr (px_andl (px_andr (px_andl (px_andr (px_andr (px_andl (px_andr h))))))))))
  | 15, _ => (px_andr (px_andr (px_andr (px_andl (px_andr (px_andl (px_andr (px_andr (px_andl (px_andr h))))))))))
  | 16, _ => (px_andl (px_andl (px_andr (px_andr (px_andl (px_andr (px_andr (px_andl (px_andr h)))))))))
  | 17, _ => (px_andl (px_andr (px_andl (px_andr (px_andr (px_andl (px_andr (px_andr (px_andl (px_andr h))))))))))
  | 18, _ => (px_andr (px_andr (px_andl (px_andr (px_andr (px_andl (px_andr (px_andr (px_andl (px_andr h))))))))))
  | 19, _ => (px_andl (px_andl (px_andr (px_andr (px_andr (px_andl (px_andr (px_andr (px_andl (px_andr h))))))))))
  | 20, _ => (px_andr (px_andl (px_andr (px_andr (px_andr (px_andl (px_andr (px_andr (px_andl (px_andr h))))))))))
  | 21, _ => (px_andl (px_andr (px_andr (px_andr (px_andr (px_andl (px_andr (px_andr (px_andl (px_andr h))))))))))
  | 22, _ => (px_andr (px_andr (px_andr (px_andr (px_andr (px_andl (px_andr (px_andr (px_andl (px_andr h))))))))))
  | 23, _ => (px_andl (px_andl (px_andl (px_andl (px_andr (px_andr (px_andr (px_andl (px_andr h)))))))))
  | n + 24, h9 => absurd h9 (by omega)⟩
set_option maxHeartbeats 4000000 in
theorem sf_12 {args : Array Value} {s : State} (h : narrow_1.before args s = true) : px_sf args s "KettleChoir" 270 12 (kt_X.2.2.1.getD 12 []) := ⟨(px_andl (px_andr (px_andl (px_andl (px_andl (px_andr (px_andr (px_andr (px_andl (px_andr h)))))))))), (px_andr (px_andr (px_andl (px_andl (px_andl (px_andr (px_andr (px_andr (px_andl (px_andr h)))))))))), (px_andl (px_andr (px_andl (px_andl (px_andr (px_andr (px_andr (px_andl (px_andr h))))))))), (px_andl (px_andr (px_andr (px_andl (px_andl (px_andr (px_andr (px_andr (px_andl (px_andr h)))))))))), fun j hj => match j, hj with
  | 0, _ => (px_andr (px_andr (px_andr (px_andl (px_andl (px_andr (px_andr (px_andr (px_andl (px_andr h))))))))))
  | 1, _ => (px_andl (px_andl (px_andr (px_andl (px_andr (px_andr (px_andr (px_andl (px_andr h)))))))))
  | 2, _ => (px_andl (px_andr (px_andl (px_andr (px_andl (px_andr (px_andr (px_andr (px_andl (px_andr h))))))))))
  | 3, _ => (px_andr (px_andr (px_andl (px_andr (px_andl (px_andr (px_andr (px_andr (px_andl (px_andr h))))))))))
  | 4, _ => (px_andl (px_andl (px_andr (px_andr (px_andl (px_andr (px_andr (px_andr (px_andl (px_andr h))))))))))
  | 5, _ => (px_andr (px_andl (px_andr (px_andr (px_andl (px_andr (px_andr (px_andr (px_andl (px_andr h))))))))))
  | 6, _ => (px_andl (px_andr (px_andr (px_andr (px_andl (px_andr (px_andr (px_andr (px_andl (px_andr h))))))))))
  | 7, _ => (px_andr (px_andr (px_andr (px_andr (px_andl (px_andr (px_andr (px_andr (px_andl (px_andr h))))))))))
  | 8, _ => (px_andl (px_andl (px_andl (px_andr (px_andr (px_andr (px_andr (px_andl (px_andr h)))))))))
  | 9, _ => (px_andl (px_andr (px_andl (px_andl (px_andr (px_andr (px_andr (px_andr (px_andl (px_andr h))))))))))
  | 10, _ => (px_andr (px_andr (px_andl (px_andl (px_andr (px_andr (px_andr (px_andr (px_andl (px_andr h))))))))))
  | 11, _ => (px_andl (px_andr (px_andl (px_andr (px_andr (px_andr (px_andr (px_andl (px_andr h)))))))))
  | n + 12, h9 => absurd h9 (by omega)⟩
set_option maxHeartbeats 4000000 in
theorem sf_13 {args : Array Value} {s : State} (h : narrow_1.before args s = true) : px_sf args s "KettleChoir" 276 28 (kt_X.2.2.1.getD 13 []) := ⟨(px_andl (px_andr (px_andr (px_andl (px_andr (px_andr (px_andr (px_andr (px_andl (px_andr h)))))))))), (px_andr (px_andr (px_andr (px_andl (px_andr (px_andr (px_andr (px_andr (px_andl (px_andr h)))))))))), (px_andl (px_andl (px_andr (px_andr (px_andr (px_andr (px_andr (px_andl (px_andr h))))))))), (px_andl (px_andr (px_andl (px_andr (px_andr (px_andr (px_andr (px_andr (px_andl (px_andr h)))))))))), fun j hj => match j, hj with
  | 0, _ => (px_andr (px_andr (px_andl (px_andr (px_andr (px_andr (px_andr (px_andr (px_andl (px_andr h))))))))))
  | 1, _ => (px_andl (px_andl (px_andr (px_andr (px_andr (px_andr (px_andr (px_andr (px_andl (px_andr h))))))))))
  | 2, _ => (px_andr (px_andl (px_andr (px_andr (px_andr (px_andr (px_andr (px_andr (px_andl (px_andr h))))))))))
  | 3, _ => (px_andl (px_andr (px_andr (px_andr (px_andr (px_andr (px_andr (px_andr (px_andl (px_andr h))))))))))
  | 4, _ => (px_andr (px_andr (px_andr (px_andr (px_andr (px_andr (px_andr (px_andr (px_andl (px_andr h))))))))))
  | 5, _ => (px_andl (px_andl (px_andl (px_andl (px_andl (px_andl (px_andl (px_andr (px_andr h)))))))))
  | 6, _ => (px_andl (px_andr (px_andl (px_andl (px_andl (px_andl (px_andl (px_andl (px_andr (px_andr h))))))))))
  | 7, _ => (px_andr (px_andr (px_andl (px_andl (px_andl (px_andl (px_andl (px_andl (px_andr (px_andr h))))))))))
  | 8, _ => (px_andl (px_andr (px_andl (px_andl (px_andl (px_andl (px_andl (px_andr (px_andr h)))))))))
  | 9, _ => (px_andl (px_andr (px_andr (px_andl (px_andl (px_andl (px_andl (px_andl (px_andr (px_andr h))))))))))
  | 10, _ => (px_andr (px_andr (px_andr (px_andl (px_andl (px_andl (px_andl (px_andl (px_andr (px_andr h))))))))))
  | 11, _ => (px_andl (px_andl (px_andr (px_andl (px_andl (px_andl (px_andl (px_andr (px_andr h)))))))))
  | 12, _ => (px_andl (px_andr (px_andl (px_andr (px_andl (px_andl (px_andl (px_andl (px_andr (px_andr h))))))))))
  | 13, _ => (px_andr (px_andr (px_andl (px_andr (px_andl (px_andl (px_andl (px_andl (px_andr (px_andr h))))))))))
  | 14, _ => (px_andl (px_andr (px_andr (px_andl (px_andl (px_andl (px_andl (px_andr (px_andr h)))))))))
  | 15, _ => (px_andl (px_andr (px_andr (px_andr (px_andl (px_andl (px_andl (px_andl (px_andr (px_andr h))))))))))
  | 16, _ => (px_andr (px_andr (px_andr (px_andr (px_andl (px_andl (px_andl (px_andl (px_andr (px_andr h))))))))))
  | 17, _ => (px_andl (px_andl (px_andl (px_andr (px_andl (px_andl (px_andl (px_andr (px_andr h)))))))))
  | 18, _ => (px_andl (px_andr (px_andl (px_andl (px_andr (px_andl (px_andl (px_andl (px_andr (px_andr h))))))))))
  | 19, _ => (px_andr (px_andr (px_andl (px_andl (px_andr (px_andl (px_andl (px_andl (px_andr (px_andr h))))))))))
  | 20, _ => (px_andl (px_andr (px_andl (px_andr (px_andl (px_andl (px_andl (px_andr (px_andr h)))))))))
  | 21, _ => (px_andl (px_andr (px_andr (px_andl (px_andr (px_andl (px_andl (px_andl (px_andr (px_andr h))))))))))
  | 22, _ => (px_andr (px_andr (px_andr (px_andl (px_andr (px_andl (px_andl (px_andl (px_andr (px_andr h))))))))))
  | 23, _ => (px_andl (px_andl (px_andr (px_andr (px_andl (px_andl (px_andl (px_andr (px_andr h)))))))))
  | 24, _ => (px_andl (px_andr (px_andl (px_andr (px_andr (px_andl (px_andl (px_andl (px_andr (px_andr h))))))))))
  | 25, _ => (px_andr (px_andr (px_andl (px_andr (px_andr (px_andl (px_andl (px_andl (px_andr (px_andr h))))))))))
  | 26, _ => (px_andl (px_andl (px_andr (px_andr (px_andr (px_andl (px_andl (px_andl (px_andr (px_andr h))))))))))
  | 27, _ => (px_andr (px_andl (px_andr (px_andr (px_andr (px_andl (px_andl (px_andl (px_andr (px_andr h))))))))))
  | n + 28, h9 => absurd h9 (by omega)⟩
set_option maxHeartbeats 4000000 in
theorem sf_14 {args : Array Value} {s : State} (h : narrow_1.before args s = true) : px_sf args s "KettleChoir" 278 19 (kt_X.2.2.1.getD 14 []) := ⟨(px_andl (px_andr (px_andr (px_andr (px_andr (px_andl (px_andl (px_andl (px_andr (px_andr h)))))))))), (px_andr (px_andr (px_andr (px_andr (px_andr (px_andl (px_andl (px_andl (px_andr (px_andr h)))))))))), (px_andl (px_andl (px_andl (px_andl (px_andr (px_andl (px_andl (px_andr (px_andr h))))))))), (px_andl (px_andr (px_andl (px_andl (px_andl (px_andr (px_andl (px_andl (px_andr (px_andr h)))))))))), fun j hj => match j, hj with
  | 0, _ => (px_andr (px_andr (px_andl (px_andl (px_andl (px_andr (px_andl (px_andl (px_andr (px_andr h))))))))))
  | 1, _ => (px_andl (px_andr (px_andl (px_andl (px_andr (px_andl (px_andl (px_andr (px_andr h)))))))))
  | 2, _ => (px_andl (px_andr (px_andr (px_andl (px_andl (px_andr (px_andl (px_andl (px_andr (px_andr h))))))))))
  | 3, _ => (px_andr (px_andr (px_andr (px_andl (px_andl (px_andr (px_andl (px_andl (px_andr (px_andr h))))))))))
  | 4, _ => (px_andl (px_andl (px_andr (px_andl (px_andr (px_andl (px_andl (px_andr (px_andr h)))))))))
  | 5, _ => (px_andl (px_andr (px_andl (px_andr (px_andl (px_andr (px_andl (px_andl (px_andr (px_andr h))))))))))
  | 6, _ => (px_andr (px_andr (px_andl (px_andr (px_andl (px_andr (px_andl (px_andl (px_andr (px_andr h))))))))))
  | 7, _ => (px_andl (px_andl (px_andr (px_andr (px_andl (px_andr (px_andl (px_andl (px_andr (px_andr h))))))))))
  | 8, _ => (px_andr (px_andl (px_andr (px_andr (px_andl (px_andr (px_andl (px_andl (px_andr (px_andr h))))))))))
  | 9, _ => (px_andl (px_andr (px_andr (px_andr (px_andl (px_andr (px_andl (px_andl (px_andr (px_andr h))))))))))
  | 10, _ => (px_andr (px_andr (px_andr (px_andr (px_andl (px_andr (px_andl (px_andl (px_andr (px_andr h))))))))))
  | 11, _ => (px_andl (px_andl (px_andl (px_andr (px_andr (px_andl (px_andl (px_andr (px_andr h)))))))))
  | 12, _ => (px_andl (px_andr (px_andl (px_andl (px_andr (px_andr (px_andl (px_andl (px_andr (px_andr h))))))))))
  | 13, _ => (px_andr (px_andr (px_andl (px_andl (px_andr (px_andr (px_andl (px_andl (px_andr (px_andr h))))))))))
  | 14, _ => (px_andl (px_andr (px_andl (px_andr (px_andr (px_andl (px_andl (px_andr (px_andr h)))))))))
  | 15, _ => (px_andl (px_andr (px_andr (px_andl (px_andr (px_andr (px_andl (px_andl (px_andr (px_andr h))))))))))
  | 16, _ => (px_andr (px_andr (px_andr (px_andl (px_andr (px_andr (px_andl (px_andl (px_andr (px_andr h))))))))))
  | 17, _ => (px_andl (px_andl (px_andr (px_andr (px_andr (px_andl (px_andl (px_andr (px_andr h)))))))))
  | 18, _ => (px_andl (px_andr (px_andl (px_andr (px_andr (px_andr (px_andl (px_andl (px_andr (px_andr h))))))))))
  | n + 19, h9 => absurd h9 (by omega)⟩
set_option maxHeartbeats 4000000 in
theorem sf_15 {args : Array Value} {s : State} (h : narrow_1.before args s = true) : px_sf args s "KettleChoir" 314 14 (kt_X.2.2.1.getD 15 []) := ⟨(px_andr (px_andl (px_andr (px_andr (px_andr (px_andl (px_andl (px_andl (px_andr (px_andl h)))))))))), (px_andl (px_andr (px_andr (px_andr (px_andr (px_andl (px_andl (px_andl (px_andr (px_andl h)))))))))), (px_andr (px_andr (px_andr (px_andr (px_andr (px_andl (px_andl (px_andl (px_andr (px_andl h)))))))))), (px_andl (px_andl (px_andl (px_andl (px_andr (px_andl (px_andl (px_andr (px_andl h))))))))), fun j hj => match j, hj with
  | 0, _ => (px_andl (px_andr (px_andl (px_andl (px_andl (px_andr (px_andl (px_andl (px_andr (px_andl h))))))))))
  | 1, _ => (px_andr (px_andr (px_andl (px_andl (px_andl (px_andr (px_andl (px_andl (px_andr (px_andl h))))))))))
  | 2, _ => (px_andl (px_andr (px_andl (px_andl (px_andr (px_andl (px_andl (px_andr (px_andl h)))))))))
  | 3, _ => (px_andl (px_andr (px_andr (px_andl (px_andl (px_andr (px_andl (px_andl (px_andr (px_andl h))))))))))
  | 4, _ => (px_andr (px_andr (px_andr (px_andl (px_andl (px_andr (px_andl (px_andl (px_andr (px_andl h))))))))))
  | 5, _ => (px_andl (px_andl (px_andr (px_andl (px_andr (px_andl (px_andl (px_andr (px_andl h)))))))))
  | 6, _ => (px_andl (px_andr (px_andl (px_andr (px_andl (px_andr (px_andl (px_andl (px_andr (px_andl h))))))))))
  | 7, _ => (px_andr (px_andr (px_andl (px_andr (px_andl (px_andr (px_andl (px_andl (px_andr (px_andl h))))))))))
  | 8, _ => (px_andl (px_andl (px_andr (px_andr (px_andl (px_andr (px_andl (px_andl (px_andr (px_andl h))))))))))
  | 9, _ => (px_andr (px_andl (px_andr (px_andr (px_andl (px_andr (px_andl (px_andl (px_andr (px_andl h))))))))))
  | 10, _ => (px_andl (px_andr (px_andr (px_andr (px_andl (px_andr (px_andl (px_andl (px_andr (px_andl h))))))))))
  | 11, _ => (px_andr (px_andr (px_andr (px_andr (px_andl (px_andr (px_andl (px_andl (px_andr (px_andl h))))))))))
  | 12, _ => (px_andl (px_andl (px_andl (px_andr (px_andr (px_andl (px_andl (px_andr (px_andl h)))))))))
  | 13, _ => (px_andl (px_andr (px_andl (px_andl (px_andr (px_andr (px_andl (px_andl (px_andr (px_andl h))))))))))
  | n + 14, h9 => absurd h9 (by omega)⟩
set_option maxHeartbeats 4000000 in
theorem sf_16 {args : Array Value} {s : State} (h : narrow_1.before args s = true) : px_sf args s "KettleChoir" 316 13 (kt_X.2.2.1.getD 16 []) := ⟨(px_andl (px_andr (px_andl (px_andr (px_andr (px_andl (px_andr (px_andl (px_andr (px_andl h)))))))))), (px_andr (px_andr (px_andl (px_andr (px_andr (px_andl (px_andr (px_andl (px_andr (px_andl h)))))))))), (px_andl (px_andl (px_andr (px_andr (px_andr (px_andl (px_andr (px_andl (px_andr (px_andl h)))))))))), (px_andr (px_andl (px_andr (px_andr (px_andr (px_andl (px_andr (px_andl (px_andr (px_andl h)))))))))), fun j hj => match j, hj with
  | 0, _ => (px_andl (px_andr (px_andr (px_andr (px_andr (px_andl (px_andr (px_andl (px_andr (px_andl h))))))))))
  | 1, _ => (px_andr (px_andr (px_andr (px_andr (px_andr (px_andl (px_andr (px_andl (px_andr (px_andl h))))))))))
  | 2, _ => (px_andl (px_andl (px_andl (px_andl (px_andr (px_andr (px_andl (px_andr (px_andl h)))))))))
  | 3, _ => (px_andl (px_andr (px_andl (px_andl (px_andl (px_andr (px_andr (px_andl (px_andr (px_andl h))))))))))
  | 4, _ => (px_andr (px_andr (px_andl (px_andl (px_andl (px_andr (px_andr (px_andl (px_andr (px_andl h))))))))))
  | 5, _ => (px_andl (px_andr (px_andl (px_andl (px_andr (px_andr (px_andl (px_andr (px_andl h)))))))))
  | 6, _ => (px_andl (px_andr (px_andr (px_andl (px_andl (px_andr (px_andr (px_andl (px_andr (px_andl h))))))))))
  | 7, _ => (px_andr (px_andr (px_andr (px_andl (px_andl (px_andr (px_andr (px_andl (px_andr (px_andl h))))))))))
  | 8, _ => (px_andl (px_andl (px_andr (px_andl (px_andr (px_andr (px_andl (px_andr (px_andl h)))))))))
  | 9, _ => (px_andl (px_andr (px_andl (px_andr (px_andl (px_andr (px_andr (px_andl (px_andr (px_andl h))))))))))
  | 10, _ => (px_andr (px_andr (px_andl (px_andr (px_andl (px_andr (px_andr (px_andl (px_andr (px_andl h))))))))))
  | 11, _ => (px_andl (px_andl (px_andr (px_andr (px_andl (px_andr (px_andr (px_andl (px_andr (px_andl h))))))))))
  | 12, _ => (px_andr (px_andl (px_andr (px_andr (px_andl (px_andr (px_andr (px_andl (px_andr (px_andl h))))))))))
  | n + 13, h9 => absurd h9 (by omega)⟩
set_option maxHeartbeats 4000000 in
theorem sf_17 {args : Array Value} {s : State} (h : narrow_1.before args s = true) : px_sf args s "KettleChoir" 318 12 (kt_X.2.2.1.getD 17 []) := ⟨(px_andr (px_andr (px_andl (px_andl (px_andr (px_andl (px_andl (px_andr (px_andr (px_andl h)))))))))), (px_andl (px_andr (px_andl (px_andr (px_andl (px_andl (px_andr (px_andr (px_andl h))))))))), (px_andl (px_andr (px_andr (px_andl (px_andr (px_andl (px_andl (px_andr (px_andr (px_andl h)))))))))), (px_andr (px_andr (px_andr (px_andl (px_andr (px_andl (px_andl (px_andr (px_andr (px_andl h)))))))))), fun j hj => match j, hj with
  | 0, _ => (px_andl (px_andl (px_andr (px_andr (px_andl (px_andl (px_andr (px_andr (px_andl h)))))))))
  | 1, _ => (px_andl (px_andr (px_andl (px_andr (px_andr (px_andl (px_andl (px_andr (px_andr (px_andl h))))))))))
  | 2, _ => (px_andr (px_andr (px_andl (px_andr (px_andr (px_andl (px_andl (px_andr (px_andr (px_andl h))))))))))
  | 3, _ => (px_andl (px_andl (px_andr (px_andr (px_andr (px_andl (px_andl (px_andr (px_andr (px_andl h))))))))))
  | 4, _ => (px_andr (px_andl (px_andr (px_andr (px_andr (px_andl (px_andl (px_andr (px_andr (px_andl h))))))))))
  | 5, _ => (px_andl (px_andr (px_andr (px_andr (px_andr (px_andl (px_andl (px_andr (px_andr (px_andl h))))))))))
  | 6, _ => (px_andr (px_andr (px_andr (px_andr (px_andr (px_andl (px_andl (px_andr (px_andr (px_andl h))))))))))
  | 7, _ => (px_andl (px_andl (px_andl (px_andl (px_andr (px_andl (px_andr (px_andr (px_andl h)))))))))
  | 8, _ => (px_andl (px_andr (px_andl (px_andl (px_andl (px_andr (px_andl (px_andr (px_andr (px_andl h))))))))))
  | 9, _ => (px_andr (px_andr (px_andl (px_andl (px_andl (px_andr (px_andl (px_andr (px_andr (px_andl h))))))))))
  | 10, _ => (px_andl (px_andr (px_andl (px_andl (px_andr (px_andl (px_andr (px_andr (px_andl h)))))))))
  | 11, _ => (px_andl (px_andr (px_andr (px_andl (px_andl (px_andr (px_andl (px_andr (px_andr (px_andl h))))))))))
  | n + 12, h9 => absurd h9 (by omega)⟩
set_option maxHeartbeats 4000000 in
theorem sf_18 {args : Array Value} {s : State} (h : narrow_1.before args s = true) : px_sf args s "KettleChoir" 320 20 (kt_X.2.2.1.getD 18 []) := ⟨(px_andr (px_andr (px_andl (px_andr (px_andr (px_andr (px_andl (px_andr (px_andr (px_andl h)))))))))), (px_andl (px_andl (px_andr (px_andr (px_andr (px_andr (px_andl (px_andr (px_andr (px_andl h)))))))))), (px_andr (px_andl (px_andr (px_andr (px_andr (px_andr (px_andl (px_andr (px_andr (px_andl h)))))))))), (px_andl (px_andr (px_andr (px_andr (px_andr (px_andr (px_andl (px_andr (px_andr (px_andl h)))))))))), fun j hj => match j, hj with
  | 0, _ => (px_andr (px_andr (px_andr (px_andr (px_andr (px_andr (px_andl (px_andr (px_andr (px_andl h))))))))))
  | 1, _ => (px_andl (px_andl (px_andl (px_andl (px_andl (px_andr (px_andr (px_andr (px_andl h)))))))))
  | 2, _ => (px_andl (px_andr (px_andl (px_andl (px_andl (px_andl (px_andr (px_andr (px_andr (px_andl h))))))))))
  | 3, _ => (px_andr (px_andr (px_andl (px_andl (px_andl (px_andl (px_andr (px_andr (px_andr (px_andl h))))))))))
  | 4, _ => (px_andl (px_andr (px_andl (px_andl (px_andl (px_andr (px_andr (px_andr (px_andl h)))))))))
  | 5, _ => (px_andl (px_andr (px_andr (px_andl (px_andl (px_andl (px_andr (px_andr (px_andr (px_andl h))))))))))
  | 6, _ => (px_andr (px_andr (px_andr (px_andl (px_andl (px_andl (px_andr (px_andr (px_andr (px_andl h))))))))))
  | 7, _ => (px_andl (px_andl (px_andr (px_andl (px_andl (px_andr (px_andr (px_andr (px_andl h)))))))))
  | 8, _ => (px_andl (px_andr (px_andl (px_andr (px_andl (px_andl (px_andr (px_andr (px_andr (px_andl h))))))))))
  | 9, _ => (px_andr (px_andr (px_andl (px_andr (px_andl (px_andl (px_andr (px_andr (px_andr (px_andl h))))))))))
  | 10, _ => (px_andl (px_andl (px_andr (px_andr (px_andl (px_andl (px_andr (px_andr (px_andr (px_andl h))))))))))
  | 11, _ => (px_andr (px_andl (px_andr (px_andr (px_andl (px_andl (px_andr (px_andr (px_andr (px_andl h))))))))))
  | 12, _ => (px_andl (px_andr (px_andr (px_andr (px_andl (px_andl (px_andr (px_andr (px_andr (px_andl h))))))))))
  | 13, _ => (px_andr (px_andr (px_andr (px_andr (px_andl (px_andl (px_andr (px_andr (px_andr (px_andl h))))))))))
  | 14, _ => (px_andl (px_andl (px_andl (px_andr (px_andl (px_andr (px_andr (px_andr (px_andl h)))))))))
  | 15, _ => (px_andl (px_andr (px_andl (px_andl (px_andr (px_andl (px_andr (px_andr (px_andr (px_andl h))))))))))
  | 16, _ => (px_andr (px_andr (px_andl (px_andl (px_andr (px_andl (px_andr (px_andr (px_andr (px_andl h))))))))))
  | 17, _ => (px_andl (px_andr (px_andl (px_andr (px_andl (px_andr (px_andr (px_andr (px_andl h)))))))))
  | 18, _ => (px_andl (px_andr (px_andr (px_andl (px_andr (px_andl (px_andr (px_andr (px_andr (px_andl h))))))))))
  | 19, _ => (px_andr (px_andr (px_andr (px_andl (px_andr (px_andl (px_andr (px_andr (px_andr (px_andl h))))))))))
  | n + 20, h9 => absurd h9 (by omega)⟩
set_option maxHeartbeats 4000000 in
theorem sf_19 {args : Array Value} {s : State} (h : narrow_1.before args s = true) : px_sf args s "KettleChoir$Reader" 72 5 (kt_X.2.2.1.getD 19 []) := ⟨(px_andl (px_andl (px_andl (px_andl (px_andl (px_andl (px_andr (px_andl (px_andl h))))))))), (px_andl (px_andr (px_andl (px_andl (px_andl (px_andl (px_andl (px_andr (px_andl (px_andl h)))))))))), (px_andr (px_andr (px_andl (px_andl (px_andl (px_andl (px_andl (px_andr (px_andl (px_andl h)))))))))), (px_andl (px_andr (px_andl (px_andl (px_andl (px_andl (px_andr (px_andl (px_andl h))))))))), fun j hj => match j, hj with
  | 0, _ => (px_andl (px_andr (px_andr (px_andl (px_andl (px_andl (px_andl (px_andr (px_andl (px_andl h))))))))))
  | 1, _ => (px_andr (px_andr (px_andr (px_andl (px_andl (px_andl (px_andl (px_andr (px_andl (px_andl h))))))))))
  | 2, _ => (px_andl (px_andl (px_andr (px_andl (px_andl (px_andl (px_andr (px_andl (px_andl h)))))))))
  | 3, _ => (px_andl (px_andr (px_andl (px_andr (px_andl (px_andl (px_andl (px_andr (px_andl (px_andl h))))))))))
  | 4, _ => (px_andr (px_andr (px_andl (px_andr (px_andl (px_andl (px_andl (px_andr (px_andl (px_andl h))))))))))
  | n + 5, h9 => absurd h9 (by omega)⟩
set_option maxHeartbeats 4000000 in
theorem sf_20 {args : Array Value} {s : State} (h : narrow_1.before args s = true) : px_sf args s "KettleChoir$Reader" 81 4 (kt_X.2.2.1.getD 20 []) := ⟨(px_andl (px_andr (px_andr (px_andl (px_andl (px_andl (px_andr (px_andl (px_andl h))))))))), (px_andl (px_andr (px_andr (px_andr (px_andl (px_andl (px_andl (px_andr (px_andl (px_andl h)))))))))), (px_andr (px_andr (px_andr (px_andr (px_andl (px_andl (px_andl (px_andr (px_andl (px_andl h)))))))))), (px_andl (px_andl (px_andl (px_andr (px_andl (px_andl (px_andr (px_andl (px_andl h))))))))), fun j hj => match j, hj with
  | 0, _ => (px_andl (px_andr (px_andl (px_andl (px_andr (px_andl (px_andl (px_andr (px_andl (px_andl h))))))))))
  | 1, _ => (px_andr (px_andr (px_andl (px_andl (px_andr (px_andl (px_andl (px_andr (px_andl (px_andl h))))))))))
  | 2, _ => (px_andl (px_andr (px_andl (px_andr (px_andl (px_andl (px_andr (px_andl (px_andl h)))))))))
  | 3, _ => (px_andl (px_andr (px_andr (px_andl (px_andr (px_andl (px_andl (px_andr (px_andl (px_andl h))))))))))
  | n + 4, h9 => absurd h9 (by omega)⟩
set_option maxHeartbeats 4000000 in
theorem sf_21 {args : Array Value} {s : State} (h : narrow_1.before args s = true) : px_sf args s "KettleChoir$Reader" 86 5 (kt_X.2.2.1.getD 21 []) := ⟨(px_andr (px_andr (px_andr (px_andl (px_andr (px_andl (px_andl (px_andr (px_andl (px_andl h)))))))))), (px_andl (px_andl (px_andr (px_andr (px_andl (px_andl (px_andr (px_andl (px_andl h))))))))), (px_andl (px_andr (px_andl (px_andr (px_andr (px_andl (px_andl (px_andr (px_andl (px_andl h)))))))))), (px_andr (px_andr (px_andl (px_andr (px_andr (px_andl (px_andl (px_andr (px_andl (px_andl h)))))))))), fun j hj => match j, hj with
  | 0, _ => (px_andl (px_andl (px_andr (px_andr (px_andr (px_andl (px_andl (px_andr (px_andl (px_andl h))))))))))
  | 1, _ => (px_andr (px_andl (px_andr (px_andr (px_andr (px_andl (px_andl (px_andr (px_andl (px_andl h))))))))))
  | 2, _ => (px_andl (px_andr (px_andr (px_andr (px_andr (px_andl (px_andl (px_andr (px_andl (px_andl h))))))))))
  | 3, _ => (px_andr (px_andr (px_andr (px_andr (px_andr (px_andl (px_andl (px_andr (px_andl (px_andl h))))))))))
  | 4, _ => (px_andl (px_andl (px_andl (px_andl (px_andr (px_andl (px_andr (px_andl (px_andl h)))))))))
  | n + 5, h9 => absurd h9 (by omega)⟩
set_option maxHeartbeats 4000000 in
theorem sf_22 {args : Array Value} {s : State} (h : narrow_1.before args s = true) : px_sf args s "KettleChoir$Reader" 154 2 (kt_X.2.2.1.getD 22 []) := ⟨(px_andr (px_andr (px_andr (px_andr (px_andr (px_andr (px_andr (px_andr (px_andl (px_andl h)))))))))), (px_andl (px_andl (px_andl (px_andl (px_andl (px_andl (px_andl (px_andr (px_andl h))))))))), (px_andl (px_andr (px_andl (px_andl (px_andl (px_andl (px_andl (px_andl (px_andr (px_andl h)))))))))), (px_andr (px_andr (px_andl (px_andl (px_andl (px_andl (px_andl (px_andl (px_andr (px_andl h)))))))))), fun j hj => match j, hj with
  | 0, _ => (px_andl (px_andr (px_andl (px_andl (px_andl (px_andl (px_andl (px_andr (px_andl h)))))))))
  | 1, _ => (px_andl (px_andr (px_andr (px_andl (px_andl (px_andl (px_andl (px_andl (px_andr (px_andl h))))))))))
  | n + 2, h9 => absurd h9 (by omega)⟩
set_option maxHeartbeats 4000000 in
theorem sf_23 {args : Array Value} {s : State} (h : narrow_1.before args s = true) : px_sf args s "KettleChoir$Reader" 168 3 (kt_X.2.2.1.getD 23 []) := ⟨(px_andr (px_andr (px_andr (px_andl (px_andr (px_andr (px_andr (px_andr (px_andl (px_andl h)))))))))), (px_andl (px_andl (px_andr (px_andr (px_andr (px_andr (px_andr (px_andl (px_andl h))))))))), (px_andl (px_andr (px_andl (px_andr (px_andr (px_andr (px_andr (px_andr (px_andl (px_andl h)))))))))), (px_andr (px_andr (px_andl (px_andr (px_andr (px_andr (px_andr (px_andr (px_andl (px_andl h)))))))))), fun j hj => match j, hj with
  | 0, _ => (px_andl (px_andl (px_andr (px_andr (px_andr (px_andr (px_andr (px_andr (px_andl (px_andl h))))))))))
  | 1, _ => (px_andr (px_andl (px_andr (px_andr (px_andr (px_andr (px_andr (px_andr (px_andl (px_andl h))))))))))
  | 2, _ => (px_andl (px_andr (px_andr (px_andr (px_andr (px_andr (px_andr (px_andr (px_andl (px_andl h))))))))))
  | n + 3, h9 => absurd h9 (by omega)⟩
set_option maxHeartbeats 4000000 in
theorem sf_24 {args : Array Value} {s : State} (h : narrow_1.before args s = true) : px_sf args s "KettleChoir$Reader" 170 3 (kt_X.2.2.1.getD 24 []) := ⟨(px_andl (px_andr (px_andl (px_andl (px_andl (px_andr (px_andl (px_andr (px_andl (px_andl h)))))))))), (px_andr (px_andr (px_andl (px_andl (px_andl (px_andr (px_andl (px_andr (px_andl (px_andl h)))))))))), (px_andl (px_andr (px_andl (px_andl (px_andr (px_andl (px_andr (px_andl (px_andl h))))))))), (px_andl (px_andr (px_andr (px_andl (px_andl (px_andr (px_andl (px_andr (px_andl (px_andl h)))))))))), fun j hj => match j, hj with
  | 0, _ => (px_andr (px_andr (px_andr (px_andl (px_andl (px_andr (px_andl (px_andr (px_andl (px_andl h))))))))))
  | 1, _ => (px_andl (px_andl (px_andr (px_andl (px_andr (px_andl (px_andr (px_andl (px_andl h)))))))))
  | 2, _ => (px_andl (px_andr (px_andl (px_andr (px_andl (px_andr (px_andl (px_andr (px_andl (px_andl h))))))))))
  | n + 3, h9 => absurd h9 (by omega)⟩
set_option maxHeartbeats 4000000 in
theorem sf_25 {args : Array Value} {s : State} (h : narrow_1.before args s = true) : px_sf args s "KettleChoir$Reader" 184 3 (kt_X.2.2.1.getD 25 []) := ⟨(px_andl (px_andr (px_andr (px_andl (px_andr (px_andl (px_andr (px_andl (px_andl (px_andl h)))))))))), (px_andr (px_andr (px_andr (px_andl (px_andr (px_andl (px_andr (px_andl (px_andl (px_andl h)))))))))), (px_andl (px_andl (px_andr (px_andr (px_andl (px_andr (px_andl (px_andl (px_andl h))))))))), (px_andl (px_andr (px_andl (px_andr (px_andr (px_andl (px_andr (px_andl (px_andl (px_andl h)))))))))), fun j hj => match j, hj with
  | 0, _ => (px_andr (px_andr (px_andl (px_andr (px_andr (px_andl (px_andr (px_andl (px_andl (px_andl h))))))))))
  | 1, _ => (px_andl (px_andl (px_andr (px_andr (px_andr (px_andl (px_andr (px_andl (px_andl (px_andl h))))))))))
  | 2, _ => (px_andr (px_andl (px_andr (px_andr (px_andr (px_andl (px_andr (px_andl (px_andl (px_andl h))))))))))
  | n + 3, h9 => absurd h9 (by omega)⟩
set_option maxHeartbeats 4000000 in
theorem sf_26 {args : Array Value} {s : State} (h : narrow_1.before args s = true) : px_sf args s "KettleChoir$Reader" 186 6 (kt_X.2.2.1.getD 26 []) := ⟨(px_andl (px_andr (px_andr (px_andr (px_andr (px_andl (px_andr (px_andl (px_andl (px_andl h)))))))))), (px_andr (px_andr (px_andr (px_andr (px_andr (px_andl (px_andr (px_andl (px_andl (px_andl h)))))))))), (px_andl (px_andl (px_andl (px_andl (px_andr (px_andr (px_andl (px_andl (px_andl h))))))))), (px_andl (px_andr (px_andl (px_andl (px_andl (px_andr (px_andr (px_andl (px_andl (px_andl h)))))))))), fun j hj => match j, hj with
  | 0, _ => (px_andr (px_andr (px_andl (px_andl (px_andl (px_andr (px_andr (px_andl (px_andl (px_andl h))))))))))
  | 1, _ => (px_andl (px_andr (px_andl (px_andl (px_andr (px_andr (px_andl (px_andl (px_andl h)))))))))
  | 2, _ => (px_andl (px_andr (px_andr (px_andl (px_andl (px_andr (px_andr (px_andl (px_andl (px_andl h))))))))))
  | 3, _ => (px_andr (px_andr (px_andr (px_andl (px_andl (px_andr (px_andr (px_andl (px_andl (px_andl h))))))))))
  | 4, _ => (px_andl (px_andl (px_andr (px_andl (px_andr (px_andr (px_andl (px_andl (px_andl h)))))))))
  | 5, _ => (px_andl (px_andr (px_andl (px_andr (px_andl (px_andr (px_andr (px_andl (px_andl (px_andl h))))))))))
  | n + 6, h9 => absurd h9 (by omega)⟩
set_option maxHeartbeats 4000000 in
theorem sf_27 {args : Array Value} {s : State} (h : narrow_1.before args s = true) : px_sf args s "KettleChoir$Reader" 188 4 (kt_X.2.2.1.getD 27 []) := ⟨(px_andr (px_andr (px_andl (px_andr (px_andl (px_andr (px_andr (px_andl (px_andl (px_andl h)))))))))), (px_andl (px_andl (px_andr (px_andr (px_andl (px_andr (px_andr (px_andl (px_andl (px_andl h)))))))))), (px_andr (px_andl (px_andr (px_andr (px_andl (px_andr (px_andr (px_andl (px_andl (px_andl h)))))))))), (px_andl (px_andr (px_andr (px_andr (px_andl (px_andr (px_andr (px_andl (px_andl (px_andl h)))))))))), fun j hj => match j, hj with
  | 0, _ => (px_andr (px_andr (px_andr (px_andr (px_andl (px_andr (px_andr (px_andl (px_andl (px_andl h))))))))))
  | 1, _ => (px_andl (px_andl (px_andl (px_andr (px_andr (px_andr (px_andl (px_andl (px_andl h)))))))))
  | 2, _ => (px_andl (px_andr (px_andl (px_andl (px_andr (px_andr (px_andr (px_andl (px_andl (px_andl h))))))))))
  | 3, _ => (px_andr (px_andr (px_andl (px_andl (px_andr (px_andr (px_andr (px_andl (px_andl (px_andl h))))))))))
  | n + 4, h9 => absurd h9 (by omega)⟩
set_option maxHeartbeats 4000000 in
theorem sf_28 {args : Array Value} {s : State} (h : narrow_1.before args s = true) : px_sf args s "KettleChoir$Reader" 190 6 (kt_X.2.2.1.getD 28 []) := ⟨(px_andl (px_andr (px_andl (px_andr (px_andr (px_andr (px_andl (px_andl (px_andl h))))))))), (px_andl (px_andr (px_andr (px_andl (px_andr (px_andr (px_andr (px_andl (px_andl (px_andl h)))))))))), (px_andr (px_andr (px_andr (px_andl (px_andr (px_andr (px_andr (px_andl (px_andl (px_andl h)))))))))), (px_andl (px_andl (px_andr (px_andr (px_andr (px_andr (px_andl (px_andl (px_andl h))))))))), fun j hj => match j, hj with
  | 0, _ => (px_andl (px_andr (px_andl (px_andr (px_andr (px_andr (px_andr (px_andl (px_andl (px_andl h))))))))))
  | 1, _ => (px_andr (px_andr (px_andl (px_andr (px_andr (px_andr (px_andr (px_andl (px_andl (px_andl h))))))))))
  | 2, _ => (px_andl (px_andl (px_andr (px_andr (px_andr (px_andr (px_andr (px_andl (px_andl (px_andl h))))))))))
  | 3, _ => (px_andr (px_andl (px_andr (px_andr (px_andr (px_andr (px_andr (px_andl (px_andl (px_andl h))))))))))
  | 4, _ => (px_andl (px_andr (px_andr (px_andr (px_andr (px_andr (px_andr (px_andl (px_andl (px_andl h))))))))))
  | 5, _ => (px_andr (px_andr (px_andr (px_andr (px_andr (px_andr (px_andr (px_andl (px_andl (px_andl h))))))))))
  | n + 6, h9 => absurd h9 (by omega)⟩
set_option maxHeartbeats 4000000 in
theorem sf_29 {args : Array Value} {s : State} (h : narrow_1.before args s = true) : px_sf args s "KettleChoir$Reader" 192 4 (kt_X.2.2.1.getD 29 []) := ⟨(px_andr (px_andr (px_andl (px_andr (px_andl (px_andr (px_andl (px_andr (px_andl (px_andl h)))))))))), (px_andl (px_andl (px_andr (px_andr (px_andl (px_andr (px_andl (px_andr (px_andl (px_andl h)))))))))), (px_andr (px_andl (px_andr (px_andr (px_andl (px_andr (px_andl (px_andr (px_andl (px_andl h)))))))))), (px_andl (px_andr (px_andr (px_andr (px_andl (px_andr (px_andl (px_andr (px_andl (px_andl h)))))))))), fun j hj => match j, hj with
  | 0, _ => (px_andr (px_andr (px_andr (px_andr (px_andl (px_andr (px_andl (px_andr (px_andl (px_andl h))))))))))
  | 1, _ => (px_andl (px_andl (px_andl (px_andr (px_andr (px_andl (px_andr (px_andl (px_andl h)))))))))
  | 2, _ => (px_andl (px_andr (px_andl (px_andl (px_andr (px_andr (px_andl (px_andr (px_andl (px_andl h))))))))))
  | 3, _ => (px_andr (px_andr (px_andl (px_andl (px_andr (px_andr (px_andl (px_andr (px_andl (px_andl h))))))))))
  | n + 4, h9 => absurd h9 (by omega)⟩
set_option maxHeartbeats 4000000 in
theorem sf_30 {args : Array Value} {s : State} (h : narrow_1.before args s = true) : px_sf args s "KettleChoir$Reader" 194 4 (kt_X.2.2.1.getD 30 []) := ⟨(px_andl (px_andr (px_andl (px_andr (px_andr (px_andl (px_andr (px_andl (px_andl h))))))))), (px_andl (px_andr (px_andr (px_andl (px_andr (px_andr (px_andl (px_andr (px_andl (px_andl h)))))))))), (px_andr (px_andr (px_andr (px_andl (px_andr (px_andr (px_andl (px_andr (px_andl (px_andl h)))))))))), (px_andl (px_andl (px_andr (px_andr (px_andr (px_andl (px_andr (px_andl (px_andl h))))))))), fun j hj => match j, hj with
  | 0, _ => (px_andl (px_andr (px_andl (px_andr (px_andr (px_andr (px_andl (px_andr (px_andl (px_andl h))))))))))
  | 1, _ => (px_andr (px_andr (px_andl (px_andr (px_andr (px_andr (px_andl (px_andr (px_andl (px_andl h))))))))))
  | 2, _ => (px_andl (px_andl (px_andr (px_andr (px_andr (px_andr (px_andl (px_andr (px_andl (px_andl h))))))))))
  | 3, _ => (px_andr (px_andl (px_andr (px_andr (px_andr (px_andr (px_andl (px_andr (px_andl (px_andl h))))))))))
  | n + 4, h9 => absurd h9 (by omega)⟩
set_option maxHeartbeats 4000000 in
theorem sf_31 {args : Array Value} {s : State} (h : narrow_1.before args s = true) : px_sf args s "KettleChoir$Reader" 196 5 (kt_X.2.2.1.getD 31 []) := ⟨(px_andl (px_andr (px_andr (px_andr (px_andr (px_andr (px_andl (px_andr (px_andl (px_andl h)))))))))), (px_andr (px_andr (px_andr (px_andr (px_andr (px_andr (px_andl (px_andr (px_andl (px_andl h)))))))))), (px_andl (px_andl (px_andl (px_andl (px_andl (px_andr (px_andr (px_andl (px_andl h))))))))), (px_andl (px_andr (px_andl (px_andl (px_andl (px_andl (px_andr (px_andr (px_andl (px_andl h)))))))))), fun j hj => match j, hj with
  | 0, _ => (px_andr (px_andr (px_andl (px_andl (px_andl (px_andl (px_andr (px_andr (px_andl (px_andl h))))))))))
  | 1, _ => (px_andl (px_andr (px_andl (px_andl (px_andl (px_andr (px_andr (px_andl (px_andl h)))))))))
  | 2, _ => (px_andl (px_andr (px_andr (px_andl (px_andl (px_andl (px_andr (px_andr (px_andl (px_andl h))))))))))
  | 3, _ => (px_andr (px_andr (px_andr (px_andl (px_andl (px_andl (px_andr (px_andr (px_andl (px_andl h))))))))))
  | 4, _ => (px_andl (px_andl (px_andr (px_andl (px_andl (px_andr (px_andr (px_andl (px_andl h)))))))))
  | n + 5, h9 => absurd h9 (by omega)⟩
set_option maxHeartbeats 4000000 in
theorem sf_32 {args : Array Value} {s : State} (h : narrow_1.before args s = true) : px_sf args s "KettleChoir$Reader" 198 4 (kt_X.2.2.1.getD 32 []) := ⟨(px_andl (px_andr (px_andl (px_andr (px_andl (px_andl (px_andr (px_andr (px_andl (px_andl h)))))))))), (px_andr (px_andr (px_andl (px_andr (px_andl (px_andl (px_andr (px_andr (px_andl (px_andl h)))))))))), (px_andl (px_andr (px_andr (px_andl (px_andl (px_andr (px_andr (px_andl (px_andl h))))))))), (px_andl (px_andr (px_andr (px_andr (px_andl (px_andl (px_andr (px_andr (px_andl (px_andl h)))))))))), fun j hj => match j, hj with
  | 0, _ => (px_andr (px_andr (px_andr (px_andr (px_andl (px_andl (px_andr (px_andr (px_andl (px_andl h))))))))))
  | 1, _ => (px_andl (px_andl (px_andl (px_andr (px_andl (px_andr (px_andr (px_andl (px_andl h)))))))))
  | 2, _ => (px_andl (px_andr (px_andl (px_andl (px_andr (px_andl (px_andr (px_andr (px_andl (px_andl h))))))))))
  | 3, _ => (px_andr (px_andr (px_andl (px_andl (px_andr (px_andl (px_andr (px_andr (px_andl (px_andl h))))))))))
  | n + 4, h9 => absurd h9 (by omega)⟩
set_option maxHeartbeats 4000000 in
theorem sf_33 {args : Array Value} {s : State} (h : narrow_1.before args s = true) : px_sf args s "KettleChoir$Reader" 200 4 (kt_X.2.2.1.getD 33 []) := ⟨(px_andl (px_andr (px_andl (px_andr (px_andl (px_andr (px_andr (px_andl (px_andl h))))))))), (px_andl (px_andr (px_andr (px_andl (px_andr (px_andl (px_andr (px_andr (px_andl (px_andl h)))))))))), (px_andr (px_andr (px_andr (px_andl (px_andr (px_andl (px_andr (px_andr (px_andl (px_andl h)))))))))), (px_andl (px_andl (px_andr (px_andr (px_andl (px_andr (px_andr (px_andl (px_andl h))))))))), fun j hj => match j, hj with
  | 0, _ => (px_andl (px_andr (px_andl (px_andr (px_andr (px_andl (px_andr (px_andr (px_andl (px_andl h))))))))))
  | 1, _ => (px_andr (px_andr (px_andl (px_andr (px_andr (px_andl (px_andr (px_andr (px_andl (px_andl h))))))))))
  | 2, _ => (px_andl (px_andl (px_andr (px_andr (px_andr (px_andl (px_andr (px_andr (px_andl (px_andl h))))))))))
  | 3, _ => (px_andr (px_andl (px_andr (px_andr (px_andr (px_andl (px_andr (px_andr (px_andl (px_andl h))))))))))
  | n + 4, h9 => absurd h9 (by omega)⟩
set_option maxHeartbeats 4000000 in
theorem sf_34 {args : Array Value} {s : State} (h : narrow_1.before args s = true) : px_sf args s "KettleChoir$Reader" 202 5 (kt_X.2.2.1.getD 34 []) := ⟨(px_andl (px_andr (px_andr (px_andr (px_andr (px_andl (px_andr (px_andr (px_andl (px_andl h)))))))))), (px_andr (px_andr (px_andr (px_andr (px_andr (px_andl (px_andr (px_andr (px_andl (px_andl h)))))))))), (px_andl (px_andl (px_andl (px_andl (px_andr (px_andr (px_andr (px_andl (px_andl h))))))))), (px_andl (px_andr (px_andl (px_andl (px_andl (px_andr (px_andr (px_andr (px_andl (px_andl h)))))))))), fun j hj => match j, hj with
  | 0, _ => (px_andr (px_andr (px_andl (px_andl (px_andl (px_andr (px_andr (px_andr (px_andl (px_andl h))))))))))
  | 1, _ => (px_andl (px_andr (px_andl (px_andl (px_andr (px_andr (px_andr (px_andl (px_andl h)))))))))
  | 2, _ => (px_andl (px_andr (px_andr (px_andl (px_andl (px_andr (px_andr (px_andr (px_andl (px_andl h))))))))))
  | 3, _ => (px_andr (px_andr (px_andr (px_andl (px_andl (px_andr (px_andr (px_andr (px_andl (px_andl h))))))))))
  | 4, _ => (px_andl (px_andl (px_andr (px_andl (px_andr (px_andr (px_andr (px_andl (px_andl h)))))))))
  | n + 5, h9 => absurd h9 (by omega)⟩
set_option maxHeartbeats 4000000 in
theorem sf_35 {args : Array Value} {s : State} (h : narrow_1.before args s = true) : px_sf args s "KettleChoir$Reader" 204 7 (kt_X.2.2.1.getD 35 []) := ⟨(px_andl (px_andr (px_andl (px_andr (px_andl (px_andr (px_andr (px_andr (px_andl (px_andl h)))))))))), (px_andr (px_andr (px_andl (px_andr (px_andl (px_andr (px_andr (px_andr (px_andl (px_andl h)))))))))), (px_andl (px_andl (px_andr (px_andr (px_andl (px_andr (px_andr (px_andr (px_andl (px_andl h)))))))))), (px_andr (px_andl (px_andr (px_andr (px_andl (px_andr (px_andr (px_andr (px_andl (px_andl h)))))))))), fun j hj => match j, hj with
  | 0, _ => (px_andl (px_andr (px_andr (px_andr (px_andl (px_andr (px_andr (px_andr (px_andl (px_andl h))))))))))
  | 1, _ => (px_andr (px_andr (px_andr (px_andr (px_andl (px_andr (px_andr (px_andr (px_andl (px_andl h))))))))))
  | 2, _ => (px_andl (px_andl (px_andl (px_andr (px_andr (px_andr (px_andr (px_andl (px_andl h)))))))))
  | 3, _ => (px_andl (px_andr (px_andl (px_andl (px_andr (px_andr (px_andr (px_andr (px_andl (px_andl h))))))))))
  | 4, _ => (px_andr (px_andr (px_andl (px_andl (px_andr (px_andr (px_andr (px_andr (px_andl (px_andl h))))))))))
  | 5, _ => (px_andl (px_andr (px_andl (px_andr (px_andr (px_andr (px_andr (px_andl (px_andl h)))))))))
  | 6, _ => (px_andl (px_andr (px_andr (px_andl (px_andr (px_andr (px_andr (px_andr (px_andl (px_andl h))))))))))
  | n + 7, h9 => absurd h9 (by omega)⟩
set_option maxHeartbeats 4000000 in
theorem sf_36 {args : Array Value} {s : State} (h : narrow_1.before args s = true) : px_sf args s "KettleChoirModel" 11 3 (kt_X.2.2.1.getD 36 []) := ⟨(px_andr (px_andr (px_andl (px_andr (px_andr (px_andr (px_andl (px_andl (px_andr (px_andr h)))))))))), (px_andl (px_andl (px_andr (px_andr (px_andr (px_andr (px_andl (px_andl (px_andr (px_andr h)))))))))), (px_andr (px_andl (px_andr (px_andr (px_andr (px_andr (px_andl (px_andl (px_andr (px_andr h)))))))))), (px_andl (px_andr (px_andr (px_andr (px_andr (px_andr (px_andl (px_andl (px_andr (px_andr h)))))))))), fun j hj => match j, hj with
  | 0, _ => (px_andr (px_andr (px_andr (px_andr (px_andr (px_andr (px_andl (px_andl (px_andr (px_andr h))))))))))
  | 1, _ => (px_andl (px_andl (px_andl (px_andl (px_andl (px_andr (px_andl (px_andr (px_andr h)))))))))
  | 2, _ => (px_andl (px_andr (px_andl (px_andl (px_andl (px_andl (px_andr (px_andl (px_andr (px_andr h))))))))))
  | n + 3, h9 => absurd h9 (by omega)⟩
set_option maxHeartbeats 4000000 in
theorem sf_37 {args : Array Value} {s : State} (h : narrow_1.before args s = true) : px_sf args s "KettleChoirModel" 13 6 (kt_X.2.2.1.getD 37 []) := ⟨(px_andl (px_andr (px_andl (px_andl (px_andl (px_andr (px_andl (px_andr (px_andr h))))))))), (px_andl (px_andr (px_andr (px_andl (px_andl (px_andl (px_andr (px_andl (px_andr (px_andr h)))))))))), (px_andr (px_andr (px_andr (px_andl (px_andl (px_andl (px_andr (px_andl (px_andr (px_andr h)))))))))), (px_andl (px_andl (px_andr (px_andl (px_andl (px_andr (px_andl (px_andr (px_andr h))))))))), fun j hj => match j, hj with
  | 0, _ => (px_andl (px_andr (px_andl (px_andr (px_andl (px_andl (px_andr (px_andl (px_andr (px_andr h))))))))))
  | 1, _ => (px_andr (px_andr (px_andl (px_andr (px_andl (px_andl (px_andr (px_andl (px_andr (px_andr h))))))))))
  | 2, _ => (px_andl (px_andr (px_andr (px_andl (px_andl (px_andr (px_andl (px_andr (px_andr h)))))))))
  | 3, _ => (px_andl (px_andr (px_andr (px_andr (px_andl (px_andl (px_andr (px_andl (px_andr (px_andr h))))))))))
  | 4, _ => (px_andr (px_andr (px_andr (px_andr (px_andl (px_andl (px_andr (px_andl (px_andr (px_andr h))))))))))
  | 5, _ => (px_andl (px_andl (px_andl (px_andr (px_andl (px_andr (px_andl (px_andr (px_andr h)))))))))
  | n + 6, h9 => absurd h9 (by omega)⟩
set_option maxHeartbeats 4000000 in
theorem sf_38 {args : Array Value} {s : State} (h : narrow_1.before args s = true) : px_sf args s "KettleChoirModel" 15 4 (kt_X.2.2.1.getD 38 []) := ⟨(px_andr (px_andr (px_andl (px_andl (px_andr (px_andl (px_andr (px_andl (px_andr (px_andr h)))))))))), (px_andl (px_andr (px_andl (px_andr (px_andl (px_andr (px_andl (px_andr (px_andr h))))))))), (px_andl (px_andr (px_andr (px_andl (px_andr (px_andl (px_andr (px_andl (px_andr (px_andr h)))))))))), (px_andr (px_andr (px_andr (px_andl (px_andr (px_andl (px_andr (px_andl (px_andr (px_andr h)))))))))), fun j hj => match j, hj with
  | 0, _ => (px_andl (px_andl (px_andr (px_andr (px_andl (px_andr (px_andl (px_andr (px_andr h)))))))))
  | 1, _ => (px_andl (px_andr (px_andl (px_andr (px_andr (px_andl (px_andr (px_andl (px_andr (px_andr h))))))))))
  | 2, _ => (px_andr (px_andr (px_andl (px_andr (px_andr (px_andl (px_andr (px_andl (px_andr (px_andr h))))))))))
  | 3, _ => (px_andl (px_andl (px_andr (px_andr (px_andr (px_andl (px_andr (px_andl (px_andr (px_andr h))))))))))
  | n + 4, h9 => absurd h9 (by omega)⟩
set_option maxHeartbeats 4000000 in
theorem sf_39 {args : Array Value} {s : State} (h : narrow_1.before args s = true) : px_sf args s "KettleChoirModel" 17 6 (kt_X.2.2.1.getD 39 []) := ⟨(px_andl (px_andr (px_andr (px_andr (px_andr (px_andl (px_andr (px_andl (px_andr (px_andr h)))))))))), (px_andr (px_andr (px_andr (px_andr (px_andr (px_andl (px_andr (px_andl (px_andr (px_andr h)))))))))), (px_andl (px_andl (px_andl (px_andl (px_andr (px_andr (px_andl (px_andr (px_andr h))))))))), (px_andl (px_andr (px_andl (px_andl (px_andl (px_andr (px_andr (px_andl (px_andr (px_andr h)))))))))), fun j hj => match j, hj with
  | 0, _ => (px_andr (px_andr (px_andl (px_andl (px_andl (px_andr (px_andr (px_andl (px_andr (px_andr h))))))))))
  | 1, _ => (px_andl (px_andr (px_andl (px_andl (px_andr (px_andr (px_andl (px_andr (px_andr h)))))))))
  | 2, _ => (px_andl (px_andr (px_andr (px_andl (px_andl (px_andr (px_andr (px_andl (px_andr (px_andr h))))))))))
  | 3, _ => (px_andr (px_andr (px_andr (px_andl (px_andl (px_andr (px_andr (px_andl (px_andr (px_andr h))))))))))
  | 4, _ => (px_andl (px_andl (px_andr (px_andl (px_andr (px_andr (px_andl (px_andr (px_andr h)))))))))
  | 5, _ => (px_andl (px_andr (px_andl (px_andr (px_andl (px_andr (px_andr (px_andl (px_andr (px_andr h))))))))))
  | n + 6, h9 => absurd h9 (by omega)⟩
set_option maxHeartbeats 4000000 in
theorem sf_40 {args : Array Value} {s : State} (h : narrow_1.before args s = true) : px_sf args s "KettleChoirModel" 23 4 (kt_X.2.2.1.getD 40 []) := ⟨(px_andl (px_andl (px_andr (px_andr (px_andl (px_andr (px_andr (px_andl (px_andr (px_andr h)))))))))), (px_andr (px_andl (px_andr (px_andr (px_andl (px_andr (px_andr (px_andl (px_andr (px_andr h)))))))))), (px_andl (px_andr (px_andr (px_andr (px_andl (px_andr (px_andr (px_andl (px_andr (px_andr h)))))))))), (px_andr (px_andr (px_andr (px_andr (px_andl (px_andr (px_andr (px_andl (px_andr (px_andr h)))))))))), fun j hj => match j, hj with
  | 0, _ => (px_andl (px_andl (px_andl (px_andr (px_andr (px_andr (px_andl (px_andr (px_andr h)))))))))
  | 1, _ => (px_andl (px_andr (px_andl (px_andl (px_andr (px_andr (px_andr (px_andl (px_andr (px_andr h))))))))))
  | 2, _ => (px_andr (px_andr (px_andl (px_andl (px_andr (px_andr (px_andr (px_andl (px_andr (px_andr h))))))))))
  | 3, _ => (px_andl (px_andr (px_andl (px_andr (px_andr (px_andr (px_andl (px_andr (px_andr h)))))))))
  | n + 4, h9 => absurd h9 (by omega)⟩
set_option maxHeartbeats 4000000 in
theorem sf_41 {args : Array Value} {s : State} (h : narrow_1.before args s = true) : px_sf args s "KettleChoirModel" 25 4 (kt_X.2.2.1.getD 41 []) := ⟨(px_andr (px_andr (px_andr (px_andl (px_andr (px_andr (px_andr (px_andl (px_andr (px_andr h)))))))))), (px_andl (px_andl (px_andr (px_andr (px_andr (px_andr (px_andl (px_andr (px_andr h))))))))), (px_andl (px_andr (px_andl (px_andr (px_andr (px_andr (px_andr (px_andl (px_andr (px_andr h)))))))))), (px_andr (px_andr (px_andl (px_andr (px_andr (px_andr (px_andr (px_andl (px_andr (px_andr h)))))))))), fun j hj => match j, hj with
  | 0, _ => (px_andl (px_andl (px_andr (px_andr (px_andr (px_andr (px_andr (px_andl (px_andr (px_andr h))))))))))
  | 1, _ => (px_andr (px_andl (px_andr (px_andr (px_andr (px_andr (px_andr (px_andl (px_andr (px_andr h))))))))))
  | 2, _ => (px_andl (px_andr (px_andr (px_andr (px_andr (px_andr (px_andr (px_andl (px_andr (px_andr h))))))))))
  | 3, _ => (px_andr (px_andr (px_andr (px_andr (px_andr (px_andr (px_andr (px_andl (px_andr (px_andr h))))))))))
  | n + 4, h9 => absurd h9 (by omega)⟩
set_option maxHeartbeats 4000000 in
theorem sf_42 {args : Array Value} {s : State} (h : narrow_1.before args s = true) : px_sf args s "KettleChoirModel" 27 5 (kt_X.2.2.1.getD 42 []) := ⟨(px_andl (px_andr (px_andl (px_andl (px_andl (px_andl (px_andl (px_andr (px_andr (px_andr h)))))))))), (px_andr (px_andr (px_andl (px_andl (px_andl (px_andl (px_andl (px_andr (px_andr (px_andr h)))))))))), (px_andl (px_andr (px_andl (px_andl (px_andl (px_andl (px_andr (px_andr (px_andr h))))))))), (px_andl (px_andr (px_andr (px_andl (px_andl (px_andl (px_andl (px_andr (px_andr (px_andr h)))))))))), fun j hj => match j, hj with
  | 0, _ => (px_andr (px_andr (px_andr (px_andl (px_andl (px_andl (px_andl (px_andr (px_andr (px_andr h))))))))))
  | 1, _ => (px_andl (px_andl (px_andr (px_andl (px_andl (px_andl (px_andr (px_andr (px_andr h)))))))))
  | 2, _ => (px_andl (px_andr (px_andl (px_andr (px_andl (px_andl (px_andl (px_andr (px_andr (px_andr h))))))))))
  | 3, _ => (px_andr (px_andr (px_andl (px_andr (px_andl (px_andl (px_andl (px_andr (px_andr (px_andr h))))))))))
  | 4, _ => (px_andl (px_andr (px_andr (px_andl (px_andl (px_andl (px_andr (px_andr (px_andr h)))))))))
  | n + 5, h9 => absurd h9 (by omega)⟩
set_option maxHeartbeats 4000000 in
theorem sf_43 {args : Array Value} {s : State} (h : narrow_1.before args s = true) : px_sf args s "KettleChoirModel" 29 4 (kt_X.2.2.1.getD 43 []) := ⟨(px_andr (px_andr (px_andr (px_andr (px_andl (px_andl (px_andl (px_andr (px_andr (px_andr h)))))))))), (px_andl (px_andl (px_andl (px_andr (px_andl (px_andl (px_andr (px_andr (px_andr h))))))))), (px_andl (px_andr (px_andl (px_andl (px_andr (px_andl (px_andl (px_andr (px_andr (px_andr h)))))))))), (px_andr (px_andr (px_andl (px_andl (px_andr (px_andl (px_andl (px_andr (px_andr (px_andr h)))))))))), fun j hj => match j, hj with
  | 0, _ => (px_andl (px_andr (px_andl (px_andr (px_andl (px_andl (px_andr (px_andr (px_andr h)))))))))
  | 1, _ => (px_andl (px_andr (px_andr (px_andl (px_andr (px_andl (px_andl (px_andr (px_andr (px_andr h))))))))))
  | 2, _ => (px_andr (px_andr (px_andr (px_andl (px_andr (px_andl (px_andl (px_andr (px_andr (px_andr h))))))))))
  | 3, _ => (px_andl (px_andl (px_andr (px_andr (px_andl (px_andl (px_andr (px_andr (px_andr h)))))))))
  | n + 4, h9 => absurd h9 (by omega)⟩
set_option maxHeartbeats 4000000 in
theorem sf_44 {args : Array Value} {s : State} (h : narrow_1.before args s = true) : px_sf args s "KettleChoirModel" 31 4 (kt_X.2.2.1.getD 44 []) := ⟨(px_andr (px_andr (px_andl (px_andr (px_andr (px_andl (px_andl (px_andr (px_andr (px_andr h)))))))))), (px_andl (px_andl (px_andr (px_andr (px_andr (px_andl (px_andl (px_andr (px_andr (px_andr h)))))))))), (px_andr (px_andl (px_andr (px_andr (px_andr (px_andl (px_andl (px_andr (px_andr (px_andr h)))))))))), (px_andl (px_andr (px_andr (px_andr (px_andr (px_andl (px_andl (px_andr (px_andr (px_andr h)))))))))), fun j hj => match j, hj with
  | 0, _ => (px_andr (px_andr (px_andr (px_andr (px_andr (px_andl (px_andl (px_andr (px_andr (px_andr h))))))))))
  | 1, _ => (px_andl (px_andl (px_andl (px_andl (px_andr (px_andl (px_andr (px_andr (px_andr h)))))))))
  | 2, _ => (px_andl (px_andr (px_andl (px_andl (px_andl (px_andr (px_andl (px_andr (px_andr (px_andr h))))))))))
  | 3, _ => (px_andr (px_andr (px_andl (px_andl (px_andl (px_andr (px_andl (px_andr (px_andr (px_andr h))))))))))
  | n + 4, h9 => absurd h9 (by omega)⟩
set_option maxHeartbeats 4000000 in
theorem sf_45 {args : Array Value} {s : State} (h : narrow_1.before args s = true) : px_sf args s "KettleChoirModel" 33 5 (kt_X.2.2.1.getD 45 []) := ⟨(px_andl (px_andr (px_andr (px_andl (px_andl (px_andr (px_andl (px_andr (px_andr (px_andr h)))))))))), (px_andr (px_andr (px_andr (px_andl (px_andl (px_andr (px_andl (px_andr (px_andr (px_andr h)))))))))), (px_andl (px_andl (px_andr (px_andl (px_andr (px_andl (px_andr (px_andr (px_andr h))))))))), (px_andl (px_andr (px_andl (px_andr (px_andl (px_andr (px_andl (px_andr (px_andr (px_andr h)))))))))), fun j hj => match j, hj with
  | 0, _ => (px_andr (px_andr (px_andl (px_andr (px_andl (px_andr (px_andl (px_andr (px_andr (px_andr h))))))))))
  | 1, _ => (px_andl (px_andl (px_andr (px_andr (px_andl (px_andr (px_andl (px_andr (px_andr (px_andr h))))))))))
  | 2, _ => (px_andr (px_andl (px_andr (px_andr (px_andl (px_andr (px_andl (px_andr (px_andr (px_andr h))))))))))
  | 3, _ => (px_andl (px_andr (px_andr (px_andr (px_andl (px_andr (px_andl (px_andr (px_andr (px_andr h))))))))))
  | 4, _ => (px_andr (px_andr (px_andr (px_andr (px_andl (px_andr (px_andl (px_andr (px_andr (px_andr h))))))))))
  | n + 5, h9 => absurd h9 (by omega)⟩
set_option maxHeartbeats 4000000 in
theorem sf_46 {args : Array Value} {s : State} (h : narrow_1.before args s = true) : px_sf args s "KettleChoirModel" 35 7 (kt_X.2.2.1.getD 46 []) := ⟨(px_andl (px_andr (px_andl (px_andl (px_andr (px_andr (px_andl (px_andr (px_andr (px_andr h)))))))))), (px_andr (px_andr (px_andl (px_andl (px_andr (px_andr (px_andl (px_andr (px_andr (px_andr h)))))))))), (px_andl (px_andr (px_andl (px_andr (px_andr (px_andl (px_andr (px_andr (px_andr h))))))))), (px_andl (px_andr (px_andr (px_andl (px_andr (px_andr (px_andl (px_andr (px_andr (px_andr h)))))))))), fun j hj => match j, hj with
  | 0, _ => (px_andr (px_andr (px_andr (px_andl (px_andr (px_andr (px_andl (px_andr (px_andr (px_andr h))))))))))
  | 1, _ => (px_andl (px_andl (px_andr (px_andr (px_andr (px_andl (px_andr (px_andr (px_andr h)))))))))
  | 2, _ => (px_andl (px_andr (px_andl (px_andr (px_andr (px_andr (px_andl (px_andr (px_andr (px_andr h))))))))))
  | 3, _ => (px_andr (px_andr (px_andl (px_andr (px_andr (px_andr (px_andl (px_andr (px_andr (px_andr h))))))))))
  | 4, _ => (px_andl (px_andl (px_andr (px_andr (px_andr (px_andr (px_andl (px_andr (px_andr (px_andr h))))))))))
  | 5, _ => (px_andr (px_andl (px_andr (px_andr (px_andr (px_andr (px_andl (px_andr (px_andr (px_andr h))))))))))
  | 6, _ => (px_andl (px_andr (px_andr (px_andr (px_andr (px_andr (px_andl (px_andr (px_andr (px_andr h))))))))))
  | n + 7, h9 => absurd h9 (by omega)⟩
set_option maxHeartbeats 4000000 in
theorem sf_47 {args : Array Value} {s : State} (h : narrow_1.before args s = true) : px_sf args s "KettleChoirModel" 251 3 (kt_X.2.2.1.getD 47 []) := ⟨(px_andr (px_andl (px_andr (px_andr (px_andl (px_andl (px_andr (px_andr (px_andr (px_andr h)))))))))), (px_andl (px_andr (px_andr (px_andr (px_andl (px_andl (px_andr (px_andr (px_andr (px_andr h)))))))))), (px_andr (px_andr (px_andr (px_andr (px_andl (px_andl (px_andr (px_andr (px_andr (px_andr h)))))))))), (px_andl (px_andl (px_andl (px_andr (px_andl (px_andr (px_andr (px_andr (px_andr h))))))))), fun j hj => match j, hj with
  | 0, _ => (px_andl (px_andr (px_andl (px_andl (px_andr (px_andl (px_andr (px_andr (px_andr (px_andr h))))))))))
  | 1, _ => (px_andr (px_andr (px_andl (px_andl (px_andr (px_andl (px_andr (px_andr (px_andr (px_andr h))))))))))
  | 2, _ => (px_andl (px_andr (px_andl (px_andr (px_andl (px_andr (px_andr (px_andr (px_andr h)))))))))
  | n + 3, h9 => absurd h9 (by omega)⟩
set_option maxHeartbeats 4000000 in
theorem sf_48 {args : Array Value} {s : State} (h : narrow_1.before args s = true) : px_sf args s "KettleChoirModel" 259 3 (kt_X.2.2.1.getD 48 []) := ⟨(px_andr (px_andr (px_andr (px_andl (px_andr (px_andl (px_andr (px_andr (px_andr (px_andr h)))))))))), (px_andl (px_andl (px_andr (px_andr (px_andl (px_andr (px_andr (px_andr (px_andr h))))))))), (px_andl (px_andr (px_andl (px_andr (px_andr (px_andl (px_andr (px_andr (px_andr (px_andr h)))))))))), (px_andr (px_andr (px_andl (px_andr (px_andr (px_andl (px_andr (px_andr (px_andr (px_andr h)))))))))), fun j hj => match j, hj with
  | 0, _ => (px_andl (px_andl (px_andr (px_andr (px_andr (px_andl (px_andr (px_andr (px_andr (px_andr h))))))))))
  | 1, _ => (px_andr (px_andl (px_andr (px_andr (px_andr (px_andl (px_andr (px_andr (px_andr (px_andr h))))))))))
  | 2, _ => (px_andl (px_andr (px_andr (px_andr (px_andr (px_andl (px_andr (px_andr (px_andr (px_andr h))))))))))
  | n + 3, h9 => absurd h9 (by omega)⟩
set_option maxHeartbeats 4000000 in
theorem sf_49 {args : Array Value} {s : State} (h : narrow_1.before args s = true) : px_sf args s "KettleChoirModel" 264 2 (kt_X.2.2.1.getD 49 []) := ⟨(px_andl (px_andl (px_andl (px_andl (px_andr (px_andr (px_andr (px_andr (px_andr h))))))))), (px_andl (px_andr (px_andl (px_andl (px_andl (px_andr (px_andr (px_andr (px_andr (px_andr h)))))))))), (px_andr (px_andr (px_andl (px_andl (px_andl (px_andr (px_andr (px_andr (px_andr (px_andr h)))))))))), (px_andl (px_andr (px_andl (px_andl (px_andr (px_andr (px_andr (px_andr (px_andr h))))))))), fun j hj => match j, hj with
  | 0, _ => (px_andl (px_andr (px_andr (px_andl (px_andl (px_andr (px_andr (px_andr (px_andr (px_andr h))))))))))
  | 1, _ => (px_andr (px_andr (px_andr (px_andl (px_andl (px_andr (px_andr (px_andr (px_andr (px_andr h))))))))))
  | n + 2, h9 => absurd h9 (by omega)⟩
set_option maxHeartbeats 4000000 in
theorem sf_50 {args : Array Value} {s : State} (h : narrow_1.before args s = true) : px_sf args s "KettleChoirModel" 270 5 (kt_X.2.2.1.getD 50 []) := ⟨(px_andl (px_andl (px_andl (px_andl (px_andl (px_andr (px_andr (px_andr (px_andr h))))))))), (px_andl (px_andr (px_andl (px_andl (px_andl (px_andl (px_andr (px_andr (px_andr (px_andr h)))))))))), (px_andr (px_andr (px_andl (px_andl (px_andl (px_andl (px_andr (px_andr (px_andr (px_andr h)))))))))), (px_andl (px_andr (px_andl (px_andl (px_andl (px_andr (px_andr (px_andr (px_andr h))))))))), fun j hj => match j, hj with
  | 0, _ => (px_andl (px_andr (px_andr (px_andl (px_andl (px_andl (px_andr (px_andr (px_andr (px_andr h))))))))))
  | 1, _ => (px_andr (px_andr (px_andr (px_andl (px_andl (px_andl (px_andr (px_andr (px_andr (px_andr h))))))))))
  | 2, _ => (px_andl (px_andl (px_andr (px_andl (px_andl (px_andr (px_andr (px_andr (px_andr h)))))))))
  | 3, _ => (px_andl (px_andr (px_andl (px_andr (px_andl (px_andl (px_andr (px_andr (px_andr (px_andr h))))))))))
  | 4, _ => (px_andr (px_andr (px_andl (px_andr (px_andl (px_andl (px_andr (px_andr (px_andr (px_andr h))))))))))
  | n + 5, h9 => absurd h9 (by omega)⟩
set_option maxHeartbeats 4000000 in
theorem sf_51 {args : Array Value} {s : State} (h : narrow_1.before args s = true) : px_sf args s "KettleChoirModel" 275 5 (kt_X.2.2.1.getD 51 []) := ⟨(px_andl (px_andr (px_andl (px_andr (px_andl (px_andr (px_andr (px_andr (px_andr (px_andr h)))))))))), (px_andr (px_andr (px_andl (px_andr (px_andl (px_andr (px_andr (px_andr (px_andr (px_andr h)))))))))), (px_andl (px_andl (px_andr (px_andr (px_andl (px_andr (px_andr (px_andr (px_andr (px_andr h)))))))))), (px_andr (px_andl (px_andr (px_andr (px_andl (px_andr (px_andr (px_andr (px_andr (px_andr h)))))))))), fun j hj => match j, hj with
  | 0, _ => (px_andl (px_andr (px_andr (px_andr (px_andl (px_andr (px_andr (px_andr (px_andr (px_andr h))))))))))
  | 1, _ => (px_andr (px_andr (px_andr (px_andr (px_andl (px_andr (px_andr (px_andr (px_andr (px_andr h))))))))))
  | 2, _ => (px_andl (px_andl (px_andl (px_andr (px_andr (px_andr (px_andr (px_andr (px_andr h)))))))))
  | 3, _ => (px_andl (px_andr (px_andl (px_andl (px_andr (px_andr (px_andr (px_andr (px_andr (px_andr h))))))))))
  | 4, _ => (px_andr (px_andr (px_andl (px_andl (px_andr (px_andr (px_andr (px_andr (px_andr (px_andr h))))))))))
  | n + 5, h9 => absurd h9 (by omega)⟩
set_option maxHeartbeats 4000000 in
theorem sf_52 {args : Array Value} {s : State} (h : narrow_1.before args s = true) : px_sf args s "KettleChoirModel" 280 4 (kt_X.2.2.1.getD 52 []) := ⟨(px_andl (px_andr (px_andr (px_andl (px_andr (px_andr (px_andr (px_andr (px_andr (px_andr h)))))))))), (px_andr (px_andr (px_andr (px_andl (px_andr (px_andr (px_andr (px_andr (px_andr (px_andr h)))))))))), (px_andl (px_andl (px_andr (px_andr (px_andr (px_andr (px_andr (px_andr (px_andr h))))))))), (px_andl (px_andr (px_andl (px_andr (px_andr (px_andr (px_andr (px_andr (px_andr (px_andr h)))))))))), fun j hj => match j, hj with
  | 0, _ => (px_andr (px_andr (px_andl (px_andr (px_andr (px_andr (px_andr (px_andr (px_andr (px_andr h))))))))))
  | 1, _ => (px_andl (px_andl (px_andr (px_andr (px_andr (px_andr (px_andr (px_andr (px_andr (px_andr h))))))))))
  | 2, _ => (px_andr (px_andl (px_andr (px_andr (px_andr (px_andr (px_andr (px_andr (px_andr (px_andr h))))))))))
  | 3, _ => (px_andl (px_andr (px_andr (px_andr (px_andr (px_andr (px_andr (px_andr (px_andr (px_andr h))))))))))
  | n + 4, h9 => absurd h9 (by omega)⟩
theorem kt_sf {args : Array Value} {s : State} (h : narrow_1.before args s = true) : ∀ (k : Nat) (o : String) (i : Nat) (tx : String), kt_X.1[k]? = some (o, i, tx) → px_sf args s o i (kt_X.2.1.getD k 0) (kt_X.2.2.1.getD k []) := by
  intro k o i tx hk
  match k, hk with
  | 0, hk => cases hk; exact sf_0 h
  | 1, hk => cases hk; exact sf_1 h
  | 2, hk => cases hk; exact sf_2 h
  | 3, hk => cases hk; exact sf_3 h
  | 4, hk => cases hk; exact sf_4 h
  | 5, hk => cases hk; exact sf_5 h
  | 6, hk => cases hk; exact sf_6 h
  | 7, hk => cases hk; exact sf_7 h
  | 8, hk => cases hk; exact sf_8 h
  | 9, hk => cases hk; exact sf_9 h
  | 10, hk => cases hk; exact sf_10 h
  | 11, hk => cases hk; exact sf_11 h
  | 12, hk => cases hk; exact sf_12 h
  | 13, hk => cases hk; exact sf_13 h
  | 14, hk => cases hk; exact sf_14 h
  | 15, hk => cases hk; exact sf_15 h
  | 16, hk => cases hk; exact sf_16 h
  | 17, hk => cases hk; exact sf_17 h
  | 18, hk => cases hk; exact sf_18 h
  | 19, hk => cases hk; exact sf_19 h
  | 20, hk => cases hk; exact sf_20 h
  | 21, hk => cases hk; exact sf_21 h
  | 22, hk => cases hk; exact sf_22 h
  | 23, hk => cases hk; exact sf_23 h
  | 24, hk => cases hk; exact sf_24 h
  | 25, hk => cases hk; exact sf_25 h
  | 26, hk => cases hk; exact sf_26 h
  | 27, hk => cases hk; exact sf_27 h
  | 28, hk => cases hk; exact sf_28 h
  | 29, hk => cases hk; exact sf_29 h
  | 30, hk => cases hk; exact sf_30 h
  | 31, hk => cases hk; exact sf_31 h
  | 32, hk => cases hk; exact sf_32 h
  | 33, hk => cases hk; exact sf_33 h
  | 34, hk => cases hk; exact sf_34 h
  | 35, hk => cases hk; exact sf_35 h
  | 36, hk => cases hk; exact sf_36 h
  | 37, hk => cases hk; exact sf_37 h
  | 38, hk => cases hk; exact sf_38 h
  | 39, hk => cases hk; exact sf_39 h
  | 40, hk => cases hk; exact sf_40 h
  | 41, hk => cases hk; exact sf_41 h
  | 42, hk => cases hk; exact sf_42 h
  | 43, hk => cases hk; exact sf_43 h
  | 44, hk => cases hk; exact sf_44 h
  | 45, hk => cases hk; exact sf_45 h
  | 46, hk => cases hk; exact sf_46 h
  | 47, hk => cases hk; exact sf_47 h
  | 48, hk => cases hk; exact sf_48 h
  | 49, hk => cases hk; exact sf_49 h
  | 50, hk => cases hk; exact sf_50 h
  | 51, hk => cases hk; exact sf_51 h
  | 52, hk => cases hk; exact sf_52 h
  | n + 53, hk => cases hk
theorem nr_us {args : Array Value} {s : State} (h : narrow_1.before args s = true) : (Cond.isRef (Term.static "java/lang/Throwable" "UNASSIGNED_STACK" "[Ljava/lang/StackTraceElement;")).before args s = true := (px_andr (px_andr (px_andl (px_andl (px_andl (px_andl (px_andl (px_andl (px_andl (px_andl h))))))))))
theorem nr_ss {args : Array Value} {s : State} (h : narrow_1.before args s = true) : (Cond.isRef (Term.static "java/lang/Throwable" "SUPPRESSED_SENTINEL" "Ljava/util/List;")).before args s = true := (px_andl (px_andr (px_andl (px_andl (px_andl (px_andl (px_andl (px_andl (px_andl h)))))))))
theorem nr_cs {args : Array Value} {s : State} (h : narrow_1.before args s = true) : (Cond.eq (Term.static "java/lang/String" "COMPACT_STRINGS" "Z") (Term.int (1 : Int32))).before args s = true := (px_andl (px_andr (px_andr (px_andl (px_andl (px_andl (px_andl (px_andl (px_andl (px_andl h))))))))))
theorem nr_sf {args : Array Value} {s : State} (h : narrow_1.before args s = true) : (Cond.isRef (Term.static "jdk/internal/util/Preconditions" "SIOOBE_FORMATTER" "Ljava/util/function/BiFunction;")).before args s = true := (px_andr (px_andr (px_andr (px_andl (px_andl (px_andl (px_andl (px_andl (px_andl (px_andl h))))))))))
theorem nr_nc {args : Array Value} {s : State} (h : narrow_1.before args s = true) : (Cond.not (Cond.castable "java/lang/IllegalArgumentException" "java/util/NoSuchElementException")).before args s = true := (px_andl (px_andl (px_andr (px_andl (px_andr (px_andl (px_andl (px_andl (px_andl h)))))))))
set_option maxRecDepth 20000 in
theorem lq_ao : Cond.arrayOver (Jvm.ClassFile.FieldType.object "java/lang/String") ∈ lw_tbl := kc_tables_1_5 _ (List.mem_of_getElem? (i := 177) rfl)
set_option maxRecDepth 20000 in
theorem lq_c0 : Cond.castable "java/lang/IllegalArgumentException" "java/lang/IllegalArgumentException" ∈ lw_tbl := kc_tables_1_3 _ (List.mem_of_getElem? (i := 41) rfl)
set_option maxRecDepth 20000 in
theorem lq_c1 : Cond.castable "java/util/NoSuchElementException" "java/util/NoSuchElementException" ∈ lw_tbl := kc_tables_1_4 _ (List.mem_of_getElem? (i := 85) rfl)
set_option maxRecDepth 20000 in
theorem lq_lu : Cond.laysStatic "java/lang/Throwable" "UNASSIGNED_STACK" "[Ljava/lang/StackTraceElement;" ∈ lw_tbl := kc_tables_1_3 _ (List.mem_of_getElem? (i := 66) rfl)
set_option maxRecDepth 20000 in
theorem lq_ln : Cond.laysStatic "java/lang/Throwable" "SUPPRESSED_SENTINEL" "Ljava/util/List;" ∈ lw_tbl := kc_tables_1_3 _ (List.mem_of_getElem? (i := 68) rfl)
set_option maxRecDepth 20000 in
theorem lq_lc : Cond.laysStatic "java/lang/String" "COMPACT_STRINGS" "Z" ∈ lw_tbl := kc_tables_1_3 _ (List.mem_of_getElem? (i := 144) rfl)
set_option maxRecDepth 20000 in
theorem lq_lf : Cond.laysStatic "jdk/internal/util/Preconditions" "SIOOBE_FORMATTER" "Ljava/util/function/BiFunction;" ∈ lw_tbl := kc_tables_1_3 _ (List.mem_of_getElem? (i := 160) rfl)
set_option maxRecDepth 20000 in
theorem lq_it : Cond.initialized "java/lang/Throwable" ∈ lw_tbl := kc_tables_1_1 _ (List.mem_of_getElem? (i := 11) rfl)
set_option maxRecDepth 20000 in
theorem lq_d0 : Cond.declares ⟨"java/lang/RuntimeException", "<init>", "(Ljava/lang/String;)V"⟩ ∈ lw_tbl := kc_tables_1_3 _ (List.mem_of_getElem? (i := 43) rfl)
set_option maxRecDepth 20000 in
theorem lq_d1 : Cond.declares ⟨"java/lang/Exception", "<init>", "(Ljava/lang/String;)V"⟩ ∈ lw_tbl := kc_tables_1_3 _ (List.mem_of_getElem? (i := 45) rfl)
set_option maxRecDepth 20000 in
theorem lq_d2 : Cond.declares ⟨"java/lang/Throwable", "<init>", "(Ljava/lang/String;)V"⟩ ∈ lw_tbl := kc_tables_1_3 _ (List.mem_of_getElem? (i := 47) rfl)
set_option maxRecDepth 20000 in
theorem lq_nest : ∀ q ∈ kt_X.2.2.2, Cond.methodLinkNest q.1 q.2.1 q.2.2.1 q.2.2.2 ∈ lw_tbl := List.forall_mem_cons.mpr ⟨kc_tables_1_1 _ (List.mem_of_getElem? (i := 35) rfl), List.forall_mem_cons.mpr ⟨kc_tables_1_1 _ (List.mem_of_getElem? (i := 179) rfl), List.forall_mem_cons.mpr ⟨kc_tables_1_1 _ (List.mem_of_getElem? (i := 182) rfl), List.forall_mem_cons.mpr ⟨kc_tables_1_1 _ (List.mem_of_getElem? (i := 199) rfl), List.forall_mem_cons.mpr ⟨kc_tables_1_1 _ (List.mem_of_getElem? (i := 219) rfl), List.forall_mem_cons.mpr ⟨kc_tables_1_2 _ (List.mem_of_getElem? (i := 19) rfl), List.forall_mem_cons.mpr ⟨kc_tables_1_2 _ (List.mem_of_getElem? (i := 44) rfl), List.forall_mem_cons.mpr ⟨kc_tables_1_2 _ (List.mem_of_getElem? (i := 228) rfl), List.forall_mem_cons.mpr ⟨kc_tables_1_2 _ (List.mem_of_getElem? (i := 233) rfl), List.forall_mem_cons.mpr ⟨kc_tables_1_2 _ (List.mem_of_getElem? (i := 235) rfl), List.forall_mem_cons.mpr ⟨kc_tables_1_1 _ (List.mem_of_getElem? (i := 47) rfl), List.forall_mem_cons.mpr ⟨kc_tables_1_1 _ (List.mem_of_getElem? (i := 41) rfl), fun _ h => nomatch h⟩⟩⟩⟩⟩⟩⟩⟩⟩⟩⟩⟩
set_option maxRecDepth 20000 in
theorem lq_str : ∀ q ∈ kt_X.1, Cond.stringRef q.1 q.2.1 q.2.2 ∈ lw_tbl := List.forall_mem_cons.mpr ⟨kc_tables_1_3 _ (List.mem_of_getElem? (i := 79) rfl), List.forall_mem_cons.mpr ⟨kc_tables_1_4 _ (List.mem_of_getElem? (i := 92) rfl), List.forall_mem_cons.mpr ⟨kc_tables_1_4 _ (List.mem_of_getElem? (i := 111) rfl), List.forall_mem_cons.mpr ⟨kc_tables_1_4 _ (List.mem_of_getElem? (i := 128) rfl), List.forall_mem_cons.mpr ⟨kc_tables_1_4 _ (List.mem_of_getElem? (i := 141) rfl), List.forall_mem_cons.mpr ⟨kc_tables_1_4 _ (List.mem_of_getElem? (i := 203) rfl), List.forall_mem_cons.mpr ⟨kc_tables_1_4 _ (List.mem_of_getElem? (i := 211) rfl), List.forall_mem_cons.mpr ⟨kc_tables_1_5 _ (List.mem_of_getElem? (i := 21) rfl), List.forall_mem_cons.mpr ⟨kc_tables_1_5 _ (List.mem_of_getElem? (i := 71) rfl), List.forall_mem_cons.mpr ⟨kc_tables_1_5 _ (List.mem_of_getElem? (i := 84) rfl), List.forall_mem_cons.mpr ⟨kc_tables_1_5 _ (List.mem_of_getElem? (i := 115) rfl), List.forall_mem_cons.mpr ⟨kc_tables_1_5 _ (List.mem_of_getElem? (i := 123) rfl), List.forall_mem_cons.mpr ⟨kc_tables_1_5 _ (List.mem_of_getElem? (i := 124) rfl), List.forall_mem_cons.mpr ⟨kc_tables_1_5 _ (List.mem_of_getElem? (i := 140) rfl), List.forall_mem_cons.mpr ⟨kc_tables_1_5 _ (List.mem_of_getElem? (i := 141) rfl), List.forall_mem_cons.mpr ⟨kc_tables_1_4 _ (List.mem_of_getElem? (i := 110) rfl), List.forall_mem_cons.mpr ⟨kc_tables_1_4 _ (List.mem_of_getElem? (i := 123) rfl), List.forall_mem_cons.mpr ⟨kc_tables_1_4 _ (List.mem_of_getElem? (i := 140) rfl), List.forall_mem_cons.mpr ⟨kc_tables_1_4 _ (List.mem_of_getElem? (i := 181) rfl), List.forall_mem_cons.mpr ⟨kc_tables_1_3 _ (List.mem_of_getElem? (i := 202) rfl), List.forall_mem_cons.mpr ⟨kc_tables_1_3 _ (List.mem_of_getElem? (i := 207) rfl), List.forall_mem_cons.mpr ⟨kc_tables_1_3 _ (List.mem_of_getElem? (i := 220) rfl), List.forall_mem_cons.mpr ⟨kc_tables_1_4 _ (List.mem_of_getElem? (i := 34) rfl), List.forall_mem_cons.mpr ⟨kc_tables_1_4 _ (List.mem_of_getElem? (i := 33) rfl), List.forall_mem_cons.mpr ⟨kc_tables_1_4 _ (List.mem_of_getElem? (i := 1) rfl), List.forall_mem_cons.mpr ⟨kc_tables_1_3 _ (List.mem_of_getElem? (i := 130) rfl), List.forall_mem_cons.mpr ⟨kc_tables_1_3 _ (List.mem_of_getElem? (i := 183) rfl), List.forall_mem_cons.mpr ⟨kc_tables_1_3 _ (List.mem_of_getElem? (i := 184) rfl), List.forall_mem_cons.mpr ⟨kc_tables_1_3 _ (List.mem_of_getElem? (i := 185) rfl), List.forall_mem_cons.mpr ⟨kc_tables_1_4 _ (List.mem_of_getElem? (i := 22) rfl), List.forall_mem_cons.mpr ⟨kc_tables_1_4 _ (List.mem_of_getElem? (i := 23) rfl), List.forall_mem_cons.mpr ⟨kc_tables_1_4 _ (List.mem_of_getElem? (i := 24) rfl), List.forall_mem_cons.mpr ⟨kc_tables_1_4 _ (List.mem_of_getElem? (i := 25) rfl), List.forall_mem_cons.mpr ⟨kc_tables_1_4 _ (List.mem_of_getElem? (i := 26) rfl), List.forall_mem_cons.mpr ⟨kc_tables_1_4 _ (List.mem_of_getElem? (i := 27) rfl), List.forall_mem_cons.mpr ⟨kc_tables_1_4 _ (List.mem_of_getElem? (i := 28) rfl), List.forall_mem_cons.mpr ⟨kc_tables_1_5 _ (List.mem_of_getElem? (i := 178) rfl), List.forall_mem_cons.mpr ⟨kc_tables_1_5 _ (List.mem_of_getElem? (i := 179) rfl), List.forall_mem_cons.mpr ⟨kc_tables_1_5 _ (List.mem_of_getElem? (i := 180) rfl), List.forall_mem_cons.mpr ⟨kc_tables_1_5 _ (List.mem_of_getElem? (i := 181) rfl), List.forall_mem_cons.mpr ⟨kc_tables_1_5 _ (List.mem_of_getElem? (i := 182) rfl), List.forall_mem_cons.mpr ⟨kc_tables_1_5 _ (List.mem_of_getElem? (i := 183) rfl), List.forall_mem_cons.mpr ⟨kc_tables_1_5 _ (List.mem_of_getElem? (i := 184) rfl), List.forall_mem_cons.mpr ⟨kc_tables_1_5 _ (List.mem_of_getElem? (i := 185) rfl), List.forall_mem_cons.mpr ⟨kc_tables_1_5 _ (List.mem_of_getElem? (i := 186) rfl), List.forall_mem_cons.mpr ⟨kc_tables_1_5 _ (List.mem_of_getElem? (i := 187) rfl), List.forall_mem_cons.mpr ⟨kc_tables_1_5 _ (List.mem_of_getElem? (i := 188) rfl), List.forall_mem_cons.mpr ⟨kc_tables_1_6 _ (List.mem_of_getElem? (i := 194) rfl), List.forall_mem_cons.mpr ⟨kc_tables_1_6 _ (List.mem_of_getElem? (i := 223) rfl), List.forall_mem_cons.mpr ⟨kc_tables_1_6 _ (List.mem_of_getElem? (i := 224) rfl), List.forall_mem_cons.mpr ⟨kc_tables_1_6 _ (List.mem_of_getElem? (i := 173) rfl), List.forall_mem_cons.mpr ⟨kc_tables_1_6 _ (List.mem_of_getElem? (i := 233) rfl), List.forall_mem_cons.mpr ⟨kc_tables_1_6 _ (List.mem_of_getElem? (i := 238) rfl), fun _ h => nomatch h⟩⟩⟩⟩⟩⟩⟩⟩⟩⟩⟩⟩⟩⟩⟩⟩⟩⟩⟩⟩⟩⟩⟩⟩⟩⟩⟩⟩⟩⟩⟩⟩⟩⟩⟩⟩⟩⟩⟩⟩⟩⟩⟩⟩⟩⟩⟩⟩⟩⟩⟩⟩⟩
def kt_nstr : Nat := 53
theorem kt_ai : Cond.arrayClass .int ∈ kt_T := kw_3
theorem kt_al : Cond.arrayClass .long ∈ kt_T := kw_19
theorem kt_ab : Cond.arrayClass .byte ∈ kt_T := kw_204
