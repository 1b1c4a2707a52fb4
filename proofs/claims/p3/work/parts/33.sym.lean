/-! SYM: steps of the light machine whose branch isn't known by evaluation. -/
section QSym
variable {ρ : Type} {K : q_K ρ} {P : y_P}
theorem q_Runs.cast {d mi : Nat} {F F' : q_F ρ} {res : q_R ρ} (h : F = F') (h2 : q_Runs K P d mi F' res) : q_Runs K P d mi F res := h ▸ h2
theorem q_Runs.one {d mi : Nat} {F F' : q_F ρ} {res : q_R ρ} (h : q_adv1 K P mi F = some F') (h2 : q_Runs K P d mi F' res) : q_Runs K P d mi F res := q_Runs.adv (n := 1) (by unfold q_adv; rw [h]; rfl) h2
theorem q_Runs.if1 {mi d pc len t : Nat} {cnd : ClassFile.Cond} {off : Int} {x : Int32} {ls : y_L} {r : List Value} {M : q_M ρ} {res : q_R ρ} (b : Bool) (hins : y_ins P mi pc = some (.ifCond cnd off, len)) (hb : y_cmp cnd x 0 = b) (hj : y_jump pc off = some t) (h : q_Runs K P d mi (cond b t (pc + 3), ls, r, M) res) : q_Runs K P d mi (pc, ls, .int x :: r, M) res := by
  refine q_Runs.one ?_ h
  unfold q_adv1
  dsimp only
  rw [hins]
  show q_lift M (y_go pc off 3 (y_cmp cnd x 0) ls r q_D0) = _
  unfold y_go
  rw [hj, hb]
  rfl
theorem q_Runs.if2 {mi d pc len t : Nat} {cnd : ClassFile.Cond} {off : Int} {x y : Int32} {ls : y_L} {r : List Value} {M : q_M ρ} {res : q_R ρ} (b : Bool) (hins : y_ins P mi pc = some (.if_icmp cnd off, len)) (hb : y_cmp cnd x y = b) (hj : y_jump pc off = some t) (h : q_Runs K P d mi (cond b t (pc + 3), ls, r, M) res) : q_Runs K P d mi (pc, ls, .int y :: .int x :: r, M) res := by
  refine q_Runs.one ?_ h
  unfold q_adv1
  dsimp only
  rw [hins]
  show q_lift M (y_go pc off 3 (y_cmp cnd x y) ls r q_D0) = _
  unfold y_go
  rw [hj, hb]
  rfl
theorem q_Runs.swd {mi d pc len t : Nat} {df lo hi : Int} {offs : Array Int} {x : Int32} {ls : y_L} {r : List Value} {M : q_M ρ} {res : q_R ρ} (hins : y_ins P mi pc = some (.tableswitch df lo hi offs, len)) (hx : x.toInt < lo ∨ hi < x.toInt) (hj : y_jump pc df = some t) (h : q_Runs K P d mi (t, ls, r, M) res) : q_Runs K P d mi (pc, ls, .int x :: r, M) res := by
  refine q_Runs.one ?_ h
  unfold q_adv1
  dsimp only
  rw [hins]
  show q_lift M (if x.toInt < lo ∨ hi < x.toInt then y_go pc df 0 true ls r q_D0 else _) = _
  rw [if_pos hx]
  unfold y_go
  rw [hj]
  rfl
def z_cmpI (c : ClassFile.Cond) (i j : Int) : Prop := match c with
  | .eq => i = j
  | .ne => ¬ i = j
  | .lt => i < j
  | .ge => j ≤ i
  | .gt => j < i
  | .le => i ≤ j
theorem z_cmpT {c : ClassFile.Cond} {x y : Int32} (h : z_cmpI c x.toInt y.toInt) : y_cmp c x y = true := by
  cases c
  case eq => exact decide_eq_true (Int32.toInt_inj.mp h)
  case ne =>
    show (!decide (x = y)) = true
    rw [decide_eq_false (fun e => h (by rw [e]))]
    rfl
  case lt => exact decide_eq_true (Int32.lt_iff_toInt_lt.mpr h)
  case ge => exact decide_eq_true (Int32.le_iff_toInt_le.mpr h)
  case gt => exact decide_eq_true (Int32.lt_iff_toInt_lt.mpr h)
  case le => exact decide_eq_true (Int32.le_iff_toInt_le.mpr h)
theorem z_cmpF {c : ClassFile.Cond} {x y : Int32} (h : ¬ z_cmpI c x.toInt y.toInt) : y_cmp c x y = false := by
  cases c
  case eq => exact decide_eq_false (fun e => h (by show x.toInt = y.toInt; rw [e]))
  case ne =>
    have e : x = y := Int32.toInt_inj.mp (Classical.byContradiction (fun q => h q))
    show (!decide (x = y)) = false
    rw [decide_eq_true e]
    rfl
  case lt => exact decide_eq_false (fun e => h (Int32.lt_iff_toInt_lt.mp e))
  case ge => exact decide_eq_false (fun e => h (Int32.le_iff_toInt_le.mp e))
  case gt => exact decide_eq_false (fun e => h (Int32.lt_iff_toInt_lt.mp e))
  case le => exact decide_eq_false (fun e => h (Int32.le_iff_toInt_le.mp e))
theorem z_cmpR {x : Int32} : y_cmp .eq x x = true := decide_eq_true rfl
end QSym
