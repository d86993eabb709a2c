def Q_type_264 (κ : Nat → Nat) (τ : gf) (σ : Nat → Int32) (F : gf) (nu : gg) (x1 : Int32) (t0_14 : Int32) (t0_189 : Int32) : XQ := ((Q_constantFault κ τ ((Q_goThrough κ τ (upd σ 0 t0_14) F nu (τ 5 x1.toNatClampNeg) (x1 - 1)).2.1) ((Q_goThrough κ τ (upd σ 0 t0_14) F nu (τ 5 x1.toNatClampNeg) (x1 - 1)).2.2.1) ((Q_goThrough κ τ (upd σ 0 t0_14) F nu (τ 5 x1.toNatClampNeg) (x1 - 1)).2.2.2) x1).1, κ, τ, ((Q_constantFault κ τ ((Q_goThrough κ τ (upd σ 0 t0_14) F nu (τ 5 x1.toNatClampNeg) (x1 - 1)).2.1) ((Q_goThrough κ τ (upd σ 0 t0_14) F nu (τ 5 x1.toNatClampNeg) (x1 - 1)).2.2.1) ((Q_goThrough κ τ (upd σ 0 t0_14) F nu (τ 5 x1.toNatClampNeg) (x1 - 1)).2.2.2) x1).2.1), ((Q_goThrough κ τ (upd σ 0 t0_14) F nu (τ 5 x1.toNatClampNeg) (x1 - 1)).2.2.1), ((Q_goThrough κ τ (upd σ 0 t0_14) F nu (τ 5 x1.toNatClampNeg) (x1 - 1)).2.2.2))
def Q_type_469 (κ : Nat → Nat) (τ : gf) (σ : Nat → Int32) (F : gf) (nu : gg) (x1 : Int32) (t0_14 : Int32) (t0_189 : Int32) (t0_346 : Int64) (t0_448 : Int32) (t0_469 : Int32) : XQ := ((Q_newType κ τ ((Q_goThrough κ τ (upd σ 0 t0_14) F nu (τ 5 x1.toNatClampNeg) (x1 - 1)).2.1) ((Q_keep κ τ ((Q_goThrough κ τ (upd σ 0 t0_14) F nu (τ 5 x1.toNatClampNeg) (x1 - 1)).2.1) ((Q_goThrough κ τ (upd σ 0 t0_14) F nu (τ 5 x1.toNatClampNeg) (x1 - 1)).2.2.1) ((Q_goThrough κ τ (upd σ 0 t0_14) F nu (τ 5 x1.toNatClampNeg) (x1 - 1)).2.2.2) (τ 5 x1.toNatClampNeg) (x1 - 1)).2.1) ((Q_keep κ τ ((Q_goThrough κ τ (upd σ 0 t0_14) F nu (τ 5 x1.toNatClampNeg) (x1 - 1)).2.1) ((Q_goThrough κ τ (upd σ 0 t0_14) F nu (τ 5 x1.toNatClampNeg) (x1 - 1)).2.2.1) ((Q_goThrough κ τ (upd σ 0 t0_14) F nu (τ 5 x1.toNatClampNeg) (x1 - 1)).2.2.2) (τ 5 x1.toNatClampNeg) (x1 - 1)).2.2) t0_448 ((((Q_goThrough κ τ (upd σ 0 t0_14) F nu (τ 5 x1.toNatClampNeg) (x1 - 1)).2.2.2) (Q_child κ τ ((Q_goThrough κ τ (upd σ 0 t0_14) F nu (τ 5 x1.toNatClampNeg) (x1 - 1)).2.1) ((Q_goThrough κ τ (upd σ 0 t0_14) F nu (τ 5 x1.toNatClampNeg) (x1 - 1)).2.2.1) ((Q_goThrough κ τ (upd σ 0 t0_14) F nu (τ 5 x1.toNatClampNeg) (x1 - 1)).2.2.2) x1 1).toNatClampNeg).toInt32) ((((Q_goThrough κ τ (upd σ 0 t0_14) F nu (τ 5 x1.toNatClampNeg) (x1 - 1)).2.2.2) (Q_child κ τ ((Q_goThrough κ τ (upd σ 0 t0_14) F nu (τ 5 x1.toNatClampNeg) (x1 - 1)).2.1) ((Q_goThrough κ τ (upd σ 0 t0_14) F nu (τ 5 x1.toNatClampNeg) (x1 - 1)).2.2.1) ((Q_goThrough κ τ (upd σ 0 t0_14) F nu (τ 5 x1.toNatClampNeg) (x1 - 1)).2.2.2) x1 0).toNatClampNeg).toInt32) (t0_346.toInt32) t0_469).1, (ku κ 2 (κ 2 + 1)), ((Q_newType κ τ ((Q_goThrough κ τ (upd σ 0 t0_14) F nu (τ 5 x1.toNatClampNeg) (x1 - 1)).2.1) ((Q_keep κ τ ((Q_goThrough κ τ (upd σ 0 t0_14) F nu (τ 5 x1.toNatClampNeg) (x1 - 1)).2.1) ((Q_goThrough κ τ (upd σ 0 t0_14) F nu (τ 5 x1.toNatClampNeg) (x1 - 1)).2.2.1) ((Q_goThrough κ τ (upd σ 0 t0_14) F nu (τ 5 x1.toNatClampNeg) (x1 - 1)).2.2.2) (τ 5 x1.toNatClampNeg) (x1 - 1)).2.1) ((Q_keep κ τ ((Q_goThrough κ τ (upd σ 0 t0_14) F nu (τ 5 x1.toNatClampNeg) (x1 - 1)).2.1) ((Q_goThrough κ τ (upd σ 0 t0_14) F nu (τ 5 x1.toNatClampNeg) (x1 - 1)).2.2.1) ((Q_goThrough κ τ (upd σ 0 t0_14) F nu (τ 5 x1.toNatClampNeg) (x1 - 1)).2.2.2) (τ 5 x1.toNatClampNeg) (x1 - 1)).2.2) t0_448 ((((Q_goThrough κ τ (upd σ 0 t0_14) F nu (τ 5 x1.toNatClampNeg) (x1 - 1)).2.2.2) (Q_child κ τ ((Q_goThrough κ τ (upd σ 0 t0_14) F nu (τ 5 x1.toNatClampNeg) (x1 - 1)).2.1) ((Q_goThrough κ τ (upd σ 0 t0_14) F nu (τ 5 x1.toNatClampNeg) (x1 - 1)).2.2.1) ((Q_goThrough κ τ (upd σ 0 t0_14) F nu (τ 5 x1.toNatClampNeg) (x1 - 1)).2.2.2) x1 1).toNatClampNeg).toInt32) ((((Q_goThrough κ τ (upd σ 0 t0_14) F nu (τ 5 x1.toNatClampNeg) (x1 - 1)).2.2.2) (Q_child κ τ ((Q_goThrough κ τ (upd σ 0 t0_14) F nu (τ 5 x1.toNatClampNeg) (x1 - 1)).2.1) ((Q_goThrough κ τ (upd σ 0 t0_14) F nu (τ 5 x1.toNatClampNeg) (x1 - 1)).2.2.1) ((Q_goThrough κ τ (upd σ 0 t0_14) F nu (τ 5 x1.toNatClampNeg) (x1 - 1)).2.2.2) x1 0).toNatClampNeg).toInt32) (t0_346.toInt32) t0_469).2.2.1), ((Q_goThrough κ τ (upd σ 0 t0_14) F nu (τ 5 x1.toNatClampNeg) (x1 - 1)).2.1), ((Q_keep κ τ ((Q_goThrough κ τ (upd σ 0 t0_14) F nu (τ 5 x1.toNatClampNeg) (x1 - 1)).2.1) ((Q_goThrough κ τ (upd σ 0 t0_14) F nu (τ 5 x1.toNatClampNeg) (x1 - 1)).2.2.1) ((Q_goThrough κ τ (upd σ 0 t0_14) F nu (τ 5 x1.toNatClampNeg) (x1 - 1)).2.2.2) (τ 5 x1.toNatClampNeg) (x1 - 1)).2.1), ((Q_keep κ τ ((Q_goThrough κ τ (upd σ 0 t0_14) F nu (τ 5 x1.toNatClampNeg) (x1 - 1)).2.1) ((Q_goThrough κ τ (upd σ 0 t0_14) F nu (τ 5 x1.toNatClampNeg) (x1 - 1)).2.2.1) ((Q_goThrough κ τ (upd σ 0 t0_14) F nu (τ 5 x1.toNatClampNeg) (x1 - 1)).2.2.2) (τ 5 x1.toNatClampNeg) (x1 - 1)).2.2))
def Q_type_448 (κ : Nat → Nat) (τ : gf) (σ : Nat → Int32) (F : gf) (nu : gg) (x1 : Int32) (t0_14 : Int32) (t0_189 : Int32) (t0_346 : Int64) (t0_448 : Int32) : XQ := (if (τ 2 x1.toNatClampNeg) = 13 then (Q_type_469 κ τ σ F nu x1 t0_14 t0_189 t0_346 t0_448  1) else (Q_type_469 κ τ σ F nu x1 t0_14 t0_189 t0_346 t0_448  0))
def Q_type_400 (κ : Nat → Nat) (τ : gf) (σ : Nat → Int32) (F : gf) (nu : gg) (x1 : Int32) (t0_14 : Int32) (t0_189 : Int32) (t0_346 : Int64) : XQ := (if (nI (κ 2)) = 1000 then (0, κ, τ, (upd (upd ((Q_goThrough κ τ (upd σ 0 t0_14) F nu (τ 5 x1.toNatClampNeg) (x1 - 1)).2.1) 0 2) 1 ((upd σ 0 t0_14) 1)), ((Q_goThrough κ τ (upd σ 0 t0_14) F nu (τ 5 x1.toNatClampNeg) (x1 - 1)).2.2.1), ((Q_goThrough κ τ (upd σ 0 t0_14) F nu (τ 5 x1.toNatClampNeg) (x1 - 1)).2.2.2)) else (if (τ 2 x1.toNatClampNeg) = 11 then (Q_type_448 κ τ σ F nu x1 t0_14 t0_189 t0_346  2) else (Q_type_448 κ τ σ F nu x1 t0_14 t0_189 t0_346  3)))
def Q_type_392 (κ : Nat → Nat) (τ : gf) (σ : Nat → Int32) (F : gf) (nu : gg) (x1 : Int32) (t0_14 : Int32) (t0_189 : Int32) (t0_346 : Int64) : XQ := ((Q_wrong κ τ ((Q_goThrough κ τ (upd σ 0 t0_14) F nu (τ 5 x1.toNatClampNeg) (x1 - 1)).2.1) ((Q_goThrough κ τ (upd σ 0 t0_14) F nu (τ 5 x1.toNatClampNeg) (x1 - 1)).2.2.1) ((Q_goThrough κ τ (upd σ 0 t0_14) F nu (τ 5 x1.toNatClampNeg) (x1 - 1)).2.2.2) x1 6).1, κ, τ, ((Q_wrong κ τ ((Q_goThrough κ τ (upd σ 0 t0_14) F nu (τ 5 x1.toNatClampNeg) (x1 - 1)).2.1) ((Q_goThrough κ τ (upd σ 0 t0_14) F nu (τ 5 x1.toNatClampNeg) (x1 - 1)).2.2.1) ((Q_goThrough κ τ (upd σ 0 t0_14) F nu (τ 5 x1.toNatClampNeg) (x1 - 1)).2.2.2) x1 6).2.1), ((Q_goThrough κ τ (upd σ 0 t0_14) F nu (τ 5 x1.toNatClampNeg) (x1 - 1)).2.2.1), ((Q_goThrough κ τ (upd σ 0 t0_14) F nu (τ 5 x1.toNatClampNeg) (x1 - 1)).2.2.2))
def Q_type_346 (κ : Nat → Nat) (τ : gf) (σ : Nat → Int32) (F : gf) (nu : gg) (x1 : Int32) (t0_14 : Int32) (t0_189 : Int32) (t0_346 : Int64) : XQ := (if (lg_cmp t0_346 64) ≤ 0 then (if (τ 2 x1.toNatClampNeg) ≤ 11 then (Q_type_400 κ τ σ F nu x1 t0_14 t0_189 t0_346  ) else (if (lg_cmp t0_346 1) < 0 then (Q_type_392 κ τ σ F nu x1 t0_14 t0_189 t0_346  ) else (if (lg_cmp (((Q_goThrough κ τ (upd σ 0 t0_14) F nu (τ 5 x1.toNatClampNeg) (x1 - 1)).2.2.2) (Q_child κ τ ((Q_goThrough κ τ (upd σ 0 t0_14) F nu (τ 5 x1.toNatClampNeg) (x1 - 1)).2.1) ((Q_goThrough κ τ (upd σ 0 t0_14) F nu (τ 5 x1.toNatClampNeg) (x1 - 1)).2.2.1) ((Q_goThrough κ τ (upd σ 0 t0_14) F nu (τ 5 x1.toNatClampNeg) (x1 - 1)).2.2.2) x1 1).toNatClampNeg) 0) < 0 then (Q_type_392 κ τ σ F nu x1 t0_14 t0_189 t0_346  ) else (if 0 ≤ (lg_cmp (((Q_goThrough κ τ (upd σ 0 t0_14) F nu (τ 5 x1.toNatClampNeg) (x1 - 1)).2.2.2) (Q_child κ τ ((Q_goThrough κ τ (upd σ 0 t0_14) F nu (τ 5 x1.toNatClampNeg) (x1 - 1)).2.1) ((Q_goThrough κ τ (upd σ 0 t0_14) F nu (τ 5 x1.toNatClampNeg) (x1 - 1)).2.2.1) ((Q_goThrough κ τ (upd σ 0 t0_14) F nu (τ 5 x1.toNatClampNeg) (x1 - 1)).2.2.2) x1 0).toNatClampNeg) 0) then (Q_type_400 κ τ σ F nu x1 t0_14 t0_189 t0_346  ) else (Q_type_392 κ τ σ F nu x1 t0_14 t0_189 t0_346  ))))) else ((Q_wrong κ τ ((Q_goThrough κ τ (upd σ 0 t0_14) F nu (τ 5 x1.toNatClampNeg) (x1 - 1)).2.1) ((Q_goThrough κ τ (upd σ 0 t0_14) F nu (τ 5 x1.toNatClampNeg) (x1 - 1)).2.2.1) ((Q_goThrough κ τ (upd σ 0 t0_14) F nu (τ 5 x1.toNatClampNeg) (x1 - 1)).2.2.2) x1 4).1, κ, τ, ((Q_wrong κ τ ((Q_goThrough κ τ (upd σ 0 t0_14) F nu (τ 5 x1.toNatClampNeg) (x1 - 1)).2.1) ((Q_goThrough κ τ (upd σ 0 t0_14) F nu (τ 5 x1.toNatClampNeg) (x1 - 1)).2.2.1) ((Q_goThrough κ τ (upd σ 0 t0_14) F nu (τ 5 x1.toNatClampNeg) (x1 - 1)).2.2.2) x1 4).2.1), ((Q_goThrough κ τ (upd σ 0 t0_14) F nu (τ 5 x1.toNatClampNeg) (x1 - 1)).2.2.1), ((Q_goThrough κ τ (upd σ 0 t0_14) F nu (τ 5 x1.toNatClampNeg) (x1 - 1)).2.2.2)))
def Q_type_311 (κ : Nat → Nat) (τ : gf) (σ : Nat → Int32) (F : gf) (nu : gg) (x1 : Int32) (t0_14 : Int32) (t0_189 : Int32) : XQ := (if (τ 2 x1.toNatClampNeg) = 12 then (Q_type_346 κ τ σ F nu x1 t0_14 t0_189  (((((Q_goThrough κ τ (upd σ 0 t0_14) F nu (τ 5 x1.toNatClampNeg) (x1 - 1)).2.2.2) (Q_child κ τ ((Q_goThrough κ τ (upd σ 0 t0_14) F nu (τ 5 x1.toNatClampNeg) (x1 - 1)).2.1) ((Q_goThrough κ τ (upd σ 0 t0_14) F nu (τ 5 x1.toNatClampNeg) (x1 - 1)).2.2.1) ((Q_goThrough κ τ (upd σ 0 t0_14) F nu (τ 5 x1.toNatClampNeg) (x1 - 1)).2.2.2) x1 0).toNatClampNeg) - (((Q_goThrough κ τ (upd σ 0 t0_14) F nu (τ 5 x1.toNatClampNeg) (x1 - 1)).2.2.2) (Q_child κ τ ((Q_goThrough κ τ (upd σ 0 t0_14) F nu (τ 5 x1.toNatClampNeg) (x1 - 1)).2.1) ((Q_goThrough κ τ (upd σ 0 t0_14) F nu (τ 5 x1.toNatClampNeg) (x1 - 1)).2.2.1) ((Q_goThrough κ τ (upd σ 0 t0_14) F nu (τ 5 x1.toNatClampNeg) (x1 - 1)).2.2.2) x1 1).toNatClampNeg)) + 1)) else (if (τ 2 x1.toNatClampNeg) = 13 then (Q_type_346 κ τ σ F nu x1 t0_14 t0_189  (((((Q_goThrough κ τ (upd σ 0 t0_14) F nu (τ 5 x1.toNatClampNeg) (x1 - 1)).2.2.2) (Q_child κ τ ((Q_goThrough κ τ (upd σ 0 t0_14) F nu (τ 5 x1.toNatClampNeg) (x1 - 1)).2.1) ((Q_goThrough κ τ (upd σ 0 t0_14) F nu (τ 5 x1.toNatClampNeg) (x1 - 1)).2.2.1) ((Q_goThrough κ τ (upd σ 0 t0_14) F nu (τ 5 x1.toNatClampNeg) (x1 - 1)).2.2.2) x1 1).toNatClampNeg) - (((Q_goThrough κ τ (upd σ 0 t0_14) F nu (τ 5 x1.toNatClampNeg) (x1 - 1)).2.2.2) (Q_child κ τ ((Q_goThrough κ τ (upd σ 0 t0_14) F nu (τ 5 x1.toNatClampNeg) (x1 - 1)).2.1) ((Q_goThrough κ τ (upd σ 0 t0_14) F nu (τ 5 x1.toNatClampNeg) (x1 - 1)).2.2.1) ((Q_goThrough κ τ (upd σ 0 t0_14) F nu (τ 5 x1.toNatClampNeg) (x1 - 1)).2.2.2) x1 0).toNatClampNeg)) + 1)) else (Q_type_346 κ τ σ F nu x1 t0_14 t0_189  0)))
def Q_type_237 (κ : Nat → Nat) (τ : gf) (σ : Nat → Int32) (F : gf) (nu : gg) (x1 : Int32) (t0_14 : Int32) (t0_189 : Int32) : XQ := ((Q_wrong κ τ ((Q_goThrough κ τ (upd σ 0 t0_14) F nu (τ 5 x1.toNatClampNeg) (x1 - 1)).2.1) ((Q_goThrough κ τ (upd σ 0 t0_14) F nu (τ 5 x1.toNatClampNeg) (x1 - 1)).2.2.1) ((Q_goThrough κ τ (upd σ 0 t0_14) F nu (τ 5 x1.toNatClampNeg) (x1 - 1)).2.2.2) x1 3).1, κ, τ, ((Q_wrong κ τ ((Q_goThrough κ τ (upd σ 0 t0_14) F nu (τ 5 x1.toNatClampNeg) (x1 - 1)).2.1) ((Q_goThrough κ τ (upd σ 0 t0_14) F nu (τ 5 x1.toNatClampNeg) (x1 - 1)).2.2.1) ((Q_goThrough κ τ (upd σ 0 t0_14) F nu (τ 5 x1.toNatClampNeg) (x1 - 1)).2.2.2) x1 3).2.1), ((Q_goThrough κ τ (upd σ 0 t0_14) F nu (τ 5 x1.toNatClampNeg) (x1 - 1)).2.2.1), ((Q_goThrough κ τ (upd σ 0 t0_14) F nu (τ 5 x1.toNatClampNeg) (x1 - 1)).2.2.2))
def Q_type_189 (κ : Nat → Nat) (τ : gf) (σ : Nat → Int32) (F : gf) (nu : gg) (x1 : Int32) (t0_14 : Int32) (t0_189 : Int32) : XQ := (if (τ 3 x1.toNatClampNeg) = t0_189 then (if (((Q_goThrough κ τ (upd σ 0 t0_14) F nu (τ 5 x1.toNatClampNeg) (x1 - 1)).2.2.1) 9 (Q_child κ τ ((Q_goThrough κ τ (upd σ 0 t0_14) F nu (τ 5 x1.toNatClampNeg) (x1 - 1)).2.1) ((Q_goThrough κ τ (upd σ 0 t0_14) F nu (τ 5 x1.toNatClampNeg) (x1 - 1)).2.2.1) ((Q_goThrough κ τ (upd σ 0 t0_14) F nu (τ 5 x1.toNatClampNeg) (x1 - 1)).2.2.2) x1 1).toNatClampNeg) = 2 then (if (((Q_goThrough κ τ (upd σ 0 t0_14) F nu (τ 5 x1.toNatClampNeg) (x1 - 1)).2.2.1) 9 (Q_child κ τ ((Q_goThrough κ τ (upd σ 0 t0_14) F nu (τ 5 x1.toNatClampNeg) (x1 - 1)).2.1) ((Q_goThrough κ τ (upd σ 0 t0_14) F nu (τ 5 x1.toNatClampNeg) (x1 - 1)).2.2.1) ((Q_goThrough κ τ (upd σ 0 t0_14) F nu (τ 5 x1.toNatClampNeg) (x1 - 1)).2.2.2) x1 0).toNatClampNeg) = 2 then (if (((Q_goThrough κ τ (upd σ 0 t0_14) F nu (τ 5 x1.toNatClampNeg) (x1 - 1)).2.2.1) 11 (Q_child κ τ ((Q_goThrough κ τ (upd σ 0 t0_14) F nu (τ 5 x1.toNatClampNeg) (x1 - 1)).2.1) ((Q_goThrough κ τ (upd σ 0 t0_14) F nu (τ 5 x1.toNatClampNeg) (x1 - 1)).2.2.1) ((Q_goThrough κ τ (upd σ 0 t0_14) F nu (τ 5 x1.toNatClampNeg) (x1 - 1)).2.2.2) x1 1).toNatClampNeg) = 0 then (Q_type_264 κ τ σ F nu x1 t0_14 t0_189  ) else (if (((Q_goThrough κ τ (upd σ 0 t0_14) F nu (τ 5 x1.toNatClampNeg) (x1 - 1)).2.2.1) 11 (Q_child κ τ ((Q_goThrough κ τ (upd σ 0 t0_14) F nu (τ 5 x1.toNatClampNeg) (x1 - 1)).2.1) ((Q_goThrough κ τ (upd σ 0 t0_14) F nu (τ 5 x1.toNatClampNeg) (x1 - 1)).2.2.1) ((Q_goThrough κ τ (upd σ 0 t0_14) F nu (τ 5 x1.toNatClampNeg) (x1 - 1)).2.2.2) x1 0).toNatClampNeg) = 0 then (Q_type_264 κ τ σ F nu x1 t0_14 t0_189  ) else (if (τ 2 x1.toNatClampNeg) = 11 then (if (lg_cmp (((Q_goThrough κ τ (upd σ 0 t0_14) F nu (τ 5 x1.toNatClampNeg) (x1 - 1)).2.2.2) (Q_child κ τ ((Q_goThrough κ τ (upd σ 0 t0_14) F nu (τ 5 x1.toNatClampNeg) (x1 - 1)).2.1) ((Q_goThrough κ τ (upd σ 0 t0_14) F nu (τ 5 x1.toNatClampNeg) (x1 - 1)).2.2.1) ((Q_goThrough κ τ (upd σ 0 t0_14) F nu (τ 5 x1.toNatClampNeg) (x1 - 1)).2.2.2) x1 1).toNatClampNeg) (((Q_goThrough κ τ (upd σ 0 t0_14) F nu (τ 5 x1.toNatClampNeg) (x1 - 1)).2.2.2) (Q_child κ τ ((Q_goThrough κ τ (upd σ 0 t0_14) F nu (τ 5 x1.toNatClampNeg) (x1 - 1)).2.1) ((Q_goThrough κ τ (upd σ 0 t0_14) F nu (τ 5 x1.toNatClampNeg) (x1 - 1)).2.2.1) ((Q_goThrough κ τ (upd σ 0 t0_14) F nu (τ 5 x1.toNatClampNeg) (x1 - 1)).2.2.2) x1 0).toNatClampNeg)) ≤ 0 then (Q_type_311 κ τ σ F nu x1 t0_14 t0_189  ) else ((Q_wrong κ τ ((Q_goThrough κ τ (upd σ 0 t0_14) F nu (τ 5 x1.toNatClampNeg) (x1 - 1)).2.1) ((Q_goThrough κ τ (upd σ 0 t0_14) F nu (τ 5 x1.toNatClampNeg) (x1 - 1)).2.2.1) ((Q_goThrough κ τ (upd σ 0 t0_14) F nu (τ 5 x1.toNatClampNeg) (x1 - 1)).2.2.2) x1 8).1, κ, τ, ((Q_wrong κ τ ((Q_goThrough κ τ (upd σ 0 t0_14) F nu (τ 5 x1.toNatClampNeg) (x1 - 1)).2.1) ((Q_goThrough κ τ (upd σ 0 t0_14) F nu (τ 5 x1.toNatClampNeg) (x1 - 1)).2.2.1) ((Q_goThrough κ τ (upd σ 0 t0_14) F nu (τ 5 x1.toNatClampNeg) (x1 - 1)).2.2.2) x1 8).2.1), ((Q_goThrough κ τ (upd σ 0 t0_14) F nu (τ 5 x1.toNatClampNeg) (x1 - 1)).2.2.1), ((Q_goThrough κ τ (upd σ 0 t0_14) F nu (τ 5 x1.toNatClampNeg) (x1 - 1)).2.2.2))) else (Q_type_311 κ τ σ F nu x1 t0_14 t0_189  )))) else (Q_type_237 κ τ σ F nu x1 t0_14 t0_189  )) else (Q_type_237 κ τ σ F nu x1 t0_14 t0_189  )) else ((Q_wrong κ τ ((Q_goThrough κ τ (upd σ 0 t0_14) F nu (τ 5 x1.toNatClampNeg) (x1 - 1)).2.1) ((Q_goThrough κ τ (upd σ 0 t0_14) F nu (τ 5 x1.toNatClampNeg) (x1 - 1)).2.2.1) ((Q_goThrough κ τ (upd σ 0 t0_14) F nu (τ 5 x1.toNatClampNeg) (x1 - 1)).2.2.2) x1 2).1, κ, τ, ((Q_wrong κ τ ((Q_goThrough κ τ (upd σ 0 t0_14) F nu (τ 5 x1.toNatClampNeg) (x1 - 1)).2.1) ((Q_goThrough κ τ (upd σ 0 t0_14) F nu (τ 5 x1.toNatClampNeg) (x1 - 1)).2.2.1) ((Q_goThrough κ τ (upd σ 0 t0_14) F nu (τ 5 x1.toNatClampNeg) (x1 - 1)).2.2.2) x1 2).2.1), ((Q_goThrough κ τ (upd σ 0 t0_14) F nu (τ 5 x1.toNatClampNeg) (x1 - 1)).2.2.1), ((Q_goThrough κ τ (upd σ 0 t0_14) F nu (τ 5 x1.toNatClampNeg) (x1 - 1)).2.2.2)))
def Q_type_163 (κ : Nat → Nat) (τ : gf) (σ : Nat → Int32) (F : gf) (nu : gg) (x1 : Int32) (t0_14 : Int32) : XQ := ((Q_wrong κ τ ((Q_goThrough κ τ (upd σ 0 t0_14) F nu (τ 5 x1.toNatClampNeg) (x1 - 1)).2.1) ((Q_goThrough κ τ (upd σ 0 t0_14) F nu (τ 5 x1.toNatClampNeg) (x1 - 1)).2.2.1) ((Q_goThrough κ τ (upd σ 0 t0_14) F nu (τ 5 x1.toNatClampNeg) (x1 - 1)).2.2.2) x1 11).1, κ, τ, ((Q_wrong κ τ ((Q_goThrough κ τ (upd σ 0 t0_14) F nu (τ 5 x1.toNatClampNeg) (x1 - 1)).2.1) ((Q_goThrough κ τ (upd σ 0 t0_14) F nu (τ 5 x1.toNatClampNeg) (x1 - 1)).2.2.1) ((Q_goThrough κ τ (upd σ 0 t0_14) F nu (τ 5 x1.toNatClampNeg) (x1 - 1)).2.2.2) x1 11).2.1), ((Q_goThrough κ τ (upd σ 0 t0_14) F nu (τ 5 x1.toNatClampNeg) (x1 - 1)).2.2.1), ((Q_goThrough κ τ (upd σ 0 t0_14) F nu (τ 5 x1.toNatClampNeg) (x1 - 1)).2.2.2))
def Q_type_153 (κ : Nat → Nat) (τ : gf) (σ : Nat → Int32) (F : gf) (nu : gg) (x1 : Int32) (t0_14 : Int32) : XQ := (if (τ 4 x1.toNatClampNeg) = 2 then (if (τ 2 x1.toNatClampNeg) = 11 then (Q_type_189 κ τ σ F nu x1 t0_14  0) else (Q_type_189 κ τ σ F nu x1 t0_14  5)) else (Q_type_163 κ τ σ F nu x1 t0_14  ))
def Q_type_14 (κ : Nat → Nat) (τ : gf) (σ : Nat → Int32) (F : gf) (nu : gg) (x1 : Int32) (t0_14 : Int32) : XQ := (if ((upd σ 0 t0_14) 0) ≤ 0 then (if ((Q_goThrough κ τ (upd σ 0 t0_14) F nu (τ 5 x1.toNatClampNeg) (x1 - 1)).1) ≤ 0 then (if (τ 2 x1.toNatClampNeg) = 10 then (if (τ 4 x1.toNatClampNeg) ≤ 0 then (if (((Q_find κ τ ((Q_goThrough κ τ (upd σ 0 t0_14) F nu (τ 5 x1.toNatClampNeg) (x1 - 1)).2.1) ((Q_goThrough κ τ (upd σ 0 t0_14) F nu (τ 5 x1.toNatClampNeg) (x1 - 1)).2.2.1) ((Q_goThrough κ τ (upd σ 0 t0_14) F nu (τ 5 x1.toNatClampNeg) (x1 - 1)).2.2.2) (τ 3 x1.toNatClampNeg)).1) 32) = 5 then ((Q_wrong κ τ ((Q_find κ τ ((Q_goThrough κ τ (upd σ 0 t0_14) F nu (τ 5 x1.toNatClampNeg) (x1 - 1)).2.1) ((Q_goThrough κ τ (upd σ 0 t0_14) F nu (τ 5 x1.toNatClampNeg) (x1 - 1)).2.2.1) ((Q_goThrough κ τ (upd σ 0 t0_14) F nu (τ 5 x1.toNatClampNeg) (x1 - 1)).2.2.2) (τ 3 x1.toNatClampNeg)).1) ((Q_goThrough κ τ (upd σ 0 t0_14) F nu (τ 5 x1.toNatClampNeg) (x1 - 1)).2.2.1) ((Q_goThrough κ τ (upd σ 0 t0_14) F nu (τ 5 x1.toNatClampNeg) (x1 - 1)).2.2.2) x1 1).1, κ, τ, ((Q_wrong κ τ ((Q_find κ τ ((Q_goThrough κ τ (upd σ 0 t0_14) F nu (τ 5 x1.toNatClampNeg) (x1 - 1)).2.1) ((Q_goThrough κ τ (upd σ 0 t0_14) F nu (τ 5 x1.toNatClampNeg) (x1 - 1)).2.2.1) ((Q_goThrough κ τ (upd σ 0 t0_14) F nu (τ 5 x1.toNatClampNeg) (x1 - 1)).2.2.2) (τ 3 x1.toNatClampNeg)).1) ((Q_goThrough κ τ (upd σ 0 t0_14) F nu (τ 5 x1.toNatClampNeg) (x1 - 1)).2.2.1) ((Q_goThrough κ τ (upd σ 0 t0_14) F nu (τ 5 x1.toNatClampNeg) (x1 - 1)).2.2.2) x1 1).2.1), ((Q_goThrough κ τ (upd σ 0 t0_14) F nu (τ 5 x1.toNatClampNeg) (x1 - 1)).2.2.1), ((Q_goThrough κ τ (upd σ 0 t0_14) F nu (τ 5 x1.toNatClampNeg) (x1 - 1)).2.2.2)) else (if (((Q_find κ τ ((Q_goThrough κ τ (upd σ 0 t0_14) F nu (τ 5 x1.toNatClampNeg) (x1 - 1)).2.1) ((Q_goThrough κ τ (upd σ 0 t0_14) F nu (τ 5 x1.toNatClampNeg) (x1 - 1)).2.2.1) ((Q_goThrough κ τ (upd σ 0 t0_14) F nu (τ 5 x1.toNatClampNeg) (x1 - 1)).2.2.2) (τ 3 x1.toNatClampNeg)).1) 32) = 0 then ((((Q_find κ τ ((Q_goThrough κ τ (upd σ 0 t0_14) F nu (τ 5 x1.toNatClampNeg) (x1 - 1)).2.1) ((Q_goThrough κ τ (upd σ 0 t0_14) F nu (τ 5 x1.toNatClampNeg) (x1 - 1)).2.2.1) ((Q_goThrough κ τ (upd σ 0 t0_14) F nu (τ 5 x1.toNatClampNeg) (x1 - 1)).2.2.2) (τ 3 x1.toNatClampNeg)).1) 33), κ, τ, ((Q_find κ τ ((Q_goThrough κ τ (upd σ 0 t0_14) F nu (τ 5 x1.toNatClampNeg) (x1 - 1)).2.1) ((Q_goThrough κ τ (upd σ 0 t0_14) F nu (τ 5 x1.toNatClampNeg) (x1 - 1)).2.2.1) ((Q_goThrough κ τ (upd σ 0 t0_14) F nu (τ 5 x1.toNatClampNeg) (x1 - 1)).2.2.2) (τ 3 x1.toNatClampNeg)).1), ((Q_goThrough κ τ (upd σ 0 t0_14) F nu (τ 5 x1.toNatClampNeg) (x1 - 1)).2.2.1), ((Q_goThrough κ τ (upd σ 0 t0_14) F nu (τ 5 x1.toNatClampNeg) (x1 - 1)).2.2.2)) else ((Q_wrong κ τ ((Q_find κ τ ((Q_goThrough κ τ (upd σ 0 t0_14) F nu (τ 5 x1.toNatClampNeg) (x1 - 1)).2.1) ((Q_goThrough κ τ (upd σ 0 t0_14) F nu (τ 5 x1.toNatClampNeg) (x1 - 1)).2.2.1) ((Q_goThrough κ τ (upd σ 0 t0_14) F nu (τ 5 x1.toNatClampNeg) (x1 - 1)).2.2.2) (τ 3 x1.toNatClampNeg)).1) ((Q_goThrough κ τ (upd σ 0 t0_14) F nu (τ 5 x1.toNatClampNeg) (x1 - 1)).2.2.1) ((Q_goThrough κ τ (upd σ 0 t0_14) F nu (τ 5 x1.toNatClampNeg) (x1 - 1)).2.2.2) x1 2).1, κ, τ, ((Q_wrong κ τ ((Q_find κ τ ((Q_goThrough κ τ (upd σ 0 t0_14) F nu (τ 5 x1.toNatClampNeg) (x1 - 1)).2.1) ((Q_goThrough κ τ (upd σ 0 t0_14) F nu (τ 5 x1.toNatClampNeg) (x1 - 1)).2.2.1) ((Q_goThrough κ τ (upd σ 0 t0_14) F nu (τ 5 x1.toNatClampNeg) (x1 - 1)).2.2.2) (τ 3 x1.toNatClampNeg)).1) ((Q_goThrough κ τ (upd σ 0 t0_14) F nu (τ 5 x1.toNatClampNeg) (x1 - 1)).2.2.1) ((Q_goThrough κ τ (upd σ 0 t0_14) F nu (τ 5 x1.toNatClampNeg) (x1 - 1)).2.2.2) x1 2).2.1), ((Q_goThrough κ τ (upd σ 0 t0_14) F nu (τ 5 x1.toNatClampNeg) (x1 - 1)).2.2.1), ((Q_goThrough κ τ (upd σ 0 t0_14) F nu (τ 5 x1.toNatClampNeg) (x1 - 1)).2.2.2)))) else ((Q_wrong κ τ ((Q_goThrough κ τ (upd σ 0 t0_14) F nu (τ 5 x1.toNatClampNeg) (x1 - 1)).2.1) ((Q_goThrough κ τ (upd σ 0 t0_14) F nu (τ 5 x1.toNatClampNeg) (x1 - 1)).2.2.1) ((Q_goThrough κ τ (upd σ 0 t0_14) F nu (τ 5 x1.toNatClampNeg) (x1 - 1)).2.2.2) x1 11).1, κ, τ, ((Q_wrong κ τ ((Q_goThrough κ τ (upd σ 0 t0_14) F nu (τ 5 x1.toNatClampNeg) (x1 - 1)).2.1) ((Q_goThrough κ τ (upd σ 0 t0_14) F nu (τ 5 x1.toNatClampNeg) (x1 - 1)).2.2.1) ((Q_goThrough κ τ (upd σ 0 t0_14) F nu (τ 5 x1.toNatClampNeg) (x1 - 1)).2.2.2) x1 11).2.1), ((Q_goThrough κ τ (upd σ 0 t0_14) F nu (τ 5 x1.toNatClampNeg) (x1 - 1)).2.2.1), ((Q_goThrough κ τ (upd σ 0 t0_14) F nu (τ 5 x1.toNatClampNeg) (x1 - 1)).2.2.2))) else (if (τ 2 x1.toNatClampNeg) = 11 then (Q_type_153 κ τ σ F nu x1 t0_14  ) else (if (τ 2 x1.toNatClampNeg) = 12 then (Q_type_153 κ τ σ F nu x1 t0_14  ) else (if (τ 2 x1.toNatClampNeg) = 13 then (Q_type_153 κ τ σ F nu x1 t0_14  ) else (Q_type_163 κ τ σ F nu x1 t0_14  ))))) else ((-((Q_goThrough κ τ (upd σ 0 t0_14) F nu (τ 5 x1.toNatClampNeg) (x1 - 1)).1)), κ, τ, ((Q_goThrough κ τ (upd σ 0 t0_14) F nu (τ 5 x1.toNatClampNeg) (x1 - 1)).2.1), ((Q_goThrough κ τ (upd σ 0 t0_14) F nu (τ 5 x1.toNatClampNeg) (x1 - 1)).2.2.1), ((Q_goThrough κ τ (upd σ 0 t0_14) F nu (τ 5 x1.toNatClampNeg) (x1 - 1)).2.2.2))) else (0, κ, τ, (upd σ 0 t0_14), F, nu))
def Q_type (κ : Nat → Nat) (τ : gf) (σ : Nat → Int32) (F : gf) (nu : gg) (x1 : Int32) : XQ := (if (Q_noNode κ τ σ F nu x1) = 0 then (Q_type_14 κ τ σ F nu x1  0) else (Q_type_14 κ τ σ F nu x1  1))
set_option maxHeartbeats 4000000 in
set_option maxRecDepth 100000 in
theorem n_type (l : Launch) (γ : gE) (a : Nat) (B : Nat → Nat) (Z : Nat → Prop) (κ b mn : Nat → Nat) (ν : Nat → Int32) (τ : Nat → Nat → Int32) (σ : Nat → Int32) (F : Nat → Nat → Int32) (nu : Nat → Int64) (hT : ST κ b mn ν τ) (x1 : Int32) (hZ : SZ F) (hF : FD σ) (hG : GD F nu) : MU l yModel_type bModel_type 13 (some .int) 7 177 0 0 [.ref a, .int x1] γ Z (MD γ a B Z ν τ σ F nu) (mQi (fun r H => MIF γ a B Z (Q_type κ τ σ F nu x1) r H) Z) := by
  refine mu_openI (by decide) (Nat.le_of_ble_eq_true rfl) ?_
  intro p e s m args below meth c ls Q S hnm hC hA hM hE hl
  have hS : va_S Z s.heap s.heap [] := va_S.rf
  obtain ⟨hx, hb, hml, hown, hW⟩ := id S
  obtain ⟨⟨hs0, hs1, hs2, hs3, hs4, hs5, hs6⟩, ⟨hv6, hv8, hv21, hv24, hv30, hv31⟩, hTR, hTY, hOB, hNM⟩ := id hT
  have hl : lv_has ls 13 [(0, .ref a), (1, .int x1)] := hl
  obtain ⟨OUT, hQ, hO⟩ : ∃ z, (z = Q_type κ τ σ F nu x1) ∧ Oq z (Q_type κ τ σ F nu x1) := ⟨_, rfl, rfl⟩
  rw [← hQ] at hE
  clear hQ
  refine lv_aload_n hx hb dModel_type_0 rfl (lv_at hl 0 rfl) ?_
  refine lv_aload_n hx hb dModel_type_1 rfl (lv_at hl 0 rfl) ?_
  refine lv_iload_n hx hb dModel_type_2 rfl (lv_at hl 1 rfl) ?_
  refine pu_Vi (rest := [.ref a]) S hC (n_noNode l γ a B Z κ b mn ν τ σ F nu hT x1 ) meModel_noNode qw_c926675227 ⟨Nat.le_of_ble_eq_true rfl, Nat.le_of_ble_eq_true rfl⟩ (md_rv hC hM) hM rfl hl.1 rfl (Nat.le_of_ble_eq_true rfl) dModel_type_3 ⟨Nat.zero_le _, Nat.zero_le _⟩ (fun r1 hr1 => ?_)
  obtain ⟨hr1, er1⟩ := hr1
  have J14 : ∀ (ls : Array Slot) (t0_14 : Int32), (0 < t0_14 ∨ (t0_14 = 0 ∧ vp_in x1 (κ 0))) → (Oq OUT (Q_type_14 κ τ σ F nu x1   t0_14)) → lv_has ls 13 [(0, .ref a), (1, .int x1)] → W p l e (bs_rm 7 0 0 177) s m args below meth c s.heap [] 0 0 Q (F0 m 14 ls [.int t0_14, .ref a]) := by
    intro ls t0_14 ht0_14 hO hl
    refine md_pD S hC hM hS 0 rfl (by decide) rfl qw_53e275eed6 rfl (by decide +kernel) dModel_type_14 (fun H locs hM hS => ?_)
    obtain ⟨σ84, eσ84⟩ : ∃ z : Nat → Int32, z = upd σ 0 t0_14 := ⟨_, rfl⟩
    rw [← eσ84] at hM
    have hF : FD σ84 := hF.up eσ84 (by decide) (by decide)
    refine lv_aload_n hx hb dModel_type_17 rfl (lv_at hl 0 rfl) ?_
    refine md_gI S hC hM 0 (v := σ84 0) rfl (by decide) rfl qw_53e275eed6 dModel_type_18 ?_
    refine lv_topi (fun v85 ev85 => ?_)
    refine lv_if_le (tgt := 26) hx hb dModel_type_21 (by decide) (fun c86 => ?_) (fun c86 => ?_)
    · have hx1 : vp_in x1 (κ 0) := cd_0 eσ84 ev85 (by assumption) ht0_14
      refine lv_aload_n hx hb dModel_type_26 rfl (lv_at hl 0 rfl) ?_
      refine md_gI S hC hM 1 (v := σ84 1) rfl (by decide) rfl qw_d4a57461ea dModel_type_27 ?_
      refine lv_topi (fun v87 ev87 => ?_)
      refine lv_istore_n (lv' := [(2, .int v87), (0, .ref a), (1, .int x1)]) hx hb dModel_type_30 rfl hl (by decide) rfl (fun ls hl => ?_)
      refine lv_aload_n hx hb dModel_type_31 rfl (lv_at hl 1 rfl) ?_
      refine lv_aload_n hx hb dModel_type_32 rfl (lv_at hl 1 rfl) ?_
      refine md_gA S hC hM 5 (by decide) rfl qw_7e4081a75e dModel_type_33 ?_
      refine lv_iload_n hx hb dModel_type_36 rfl (lv_at hl 2 rfl) ?_
      refine md_ild S hC hM 5 3 4000 (τ 5) rfl rfl (by decide) rfl rfl (vin (by assumption) (by omega)) dModel_type_37 ?_
      refine lv_topi (fun v88 ev88 => ?_)
      refine lv_iload_n hx hb dModel_type_38 rfl (lv_at hl 2 rfl) ?_
      refine lv_iconst (v := 1) hx hb dModel_type_39 (by decide) ?_
      refine lv_isub hx hb dModel_type_40 ?_
      refine lv_topi (fun v89 ev89 => ?_)
      have hbg := bg_ok hTR hs0 hx1 ev88
      have hpm := pm_int hx1 hs0 ev89
      refine mu_Vi (rest := []) S hC (fun q h => hA q (Nat.le_trans hS.1 h)) (fun q h => h) hS (n_goThrough l γ a B Z κ b mn ν τ σ84 F nu hT v88 v89 hbg.1 (by have := vix hx1; omega) (fun k h8 h9 => by rw [hbg.2] at h8 ⊢; exact rg_ge hTR (vix hx1) h8 (by omega)) hZ hF hG) meModel_goThrough qw_fb32874592 ⟨Nat.le_of_ble_eq_true rfl, Nat.le_of_ble_eq_true rfl⟩ (md_rv hC hM) hM rfl hl.1 rfl (Nat.le_of_ble_eq_true rfl) dModel_type_41 ⟨Nat.le_refl _, Nat.le_refl _⟩ (fun r90 H locs hPO hS _ _ => ?_)
      obtain ⟨σr90, Fr90, nur90, eOr90, hM, hZ, hF, hG, hgtr90⟩ := hPO
      have er90 : r90 = (Q_goThrough κ τ σ84 F nu v88 v89).1 := by rw [eOr90.eq]
      have eσr90 : σr90 = (Q_goThrough κ τ σ84 F nu v88 v89).2.1 := by rw [eOr90.eq]
      have eFr90 : Fr90 = (Q_goThrough κ τ σ84 F nu v88 v89).2.2.1 := by rw [eOr90.eq]
      have enur90 : nur90 = (Q_goThrough κ τ σ84 F nu v88 v89).2.2.2 := by rw [eOr90.eq]
      clear eOr90
      refine lv_istore_n (lv' := [(3, .int r90), (2, .int v87), (0, .ref a), (1, .int x1)]) hx hb dModel_type_44 rfl hl (by decide) rfl (fun ls hl => ?_)
      refine lv_iload_n hx hb dModel_type_45 rfl (lv_at hl 0 rfl) ?_
      refine lv_if_le (tgt := 52) hx hb dModel_type_46 (by decide) (fun c91 => ?_) (fun c91 => ?_)
      · refine lv_aload_n hx hb dModel_type_52 rfl (lv_at hl 2 rfl) ?_
        refine md_gA S hC hM 2 (by decide) rfl qw_3471296067 dModel_type_53 ?_
        refine lv_iload_n hx hb dModel_type_56 rfl (lv_at hl 3 rfl) ?_
        refine md_ild S hC hM 2 0 4000 (τ 2) rfl rfl (by decide) rfl rfl (vin (by assumption) (by omega)) dModel_type_57 ?_
        refine lv_topi (fun v92 ev92 => ?_)
        refine lv_istore (lv' := [(4, .int v92), (3, .int r90), (2, .int v87), (0, .ref a), (1, .int x1)]) hx hb dModel_type_58 hl (by decide) rfl (fun ls hl => ?_)
        refine lv_iload hx hb dModel_type_60 (lv_at hl 0 rfl) ?_
        refine lv_bipush (v := 10) hx hb dModel_type_62 (by decide) ?_
        refine lv_icmp_ne (tgt := 132) hx hb dModel_type_64 (by decide) (fun c93 => ?_) (fun c93 => ?_)
        · refine lv_iload hx hb dModel_type_132 (lv_at hl 0 rfl) ?_
          refine lv_bipush (v := 11) hx hb dModel_type_134 (by decide) ?_
          have J163 : ∀ (ls : Array Slot), (Oq OUT (Q_type_163 κ τ σ F nu x1 t0_14   )) → lv_has ls 13 [(0, .ref a), (1, .int x1), (2, .int v87), (3, .int r90), (4, .int v92)] → W p l e (bs_rm 7 0 0 177) s m args below meth c H locs 0 0 Q (F0 m 163 ls []) := by
            intro ls hO hl
            refine lv_aload_n hx hb dModel_type_163 rfl (lv_at hl 0 rfl) ?_
            refine lv_iload_n hx hb dModel_type_164 rfl (lv_at hl 1 rfl) ?_
            refine lv_bipush (v := 11) hx hb dModel_type_165 (by decide) ?_
            refine mu_Vi (rest := []) S hC (fun q h => hA q (Nat.le_trans hS.1 h)) (fun q h => h) hS (n_wrong l γ a B Z κ b mn ν τ σr90 Fr90 nur90 hT x1 11 hF) meModel_wrong qw_a6e9824456 ⟨Nat.le_of_ble_eq_true rfl, Nat.le_of_ble_eq_true rfl⟩ (md_rv hC hM) hM rfl hl.1 rfl (Nat.le_of_ble_eq_true rfl) dModel_type_167 ⟨Nat.le_refl _, Nat.le_refl _⟩ (fun r152 H locs hPO hS _ _ => ?_)
            obtain ⟨σr152, eOr152, hM, hF, h0r152⟩ := hPO
            have er152 : r152 = (Q_wrong κ τ σr90 Fr90 nur90 x1 11).1 := by rw [eOr152.eq]
            have eσr152 : σr152 = (Q_wrong κ τ σr90 Fr90 nur90 x1 11).2.1 := by rw [eOr152.eq]
            clear eOr152
            exact hE _ _ _ _ _ hS ⟨κ, _, _, _, τ, σr152, Fr90, nur90, (by subst eσr152 er152 ev92 enur90 eFr90 eσr90 er90 ev89 ev88 ev87 ev85 eσ84 er1; exact hO.tr rfl), hT, hZ, hF, hG, hM⟩ dModel_type_170
          have J153 : ∀ (ls : Array Slot), (v92 = 11 ∨ v92 = 12 ∨ v92 = 13) → (Oq OUT (Q_type_153 κ τ σ F nu x1 t0_14   )) → lv_has ls 13 [(0, .ref a), (1, .int x1), (2, .int v87), (3, .int r90), (4, .int v92)] → W p l e (bs_rm 7 0 0 177) s m args below meth c H locs 0 0 Q (F0 m 153 ls []) := by
            intro ls h153 hO hl
            refine lv_aload_n hx hb dModel_type_153 rfl (lv_at hl 0 rfl) ?_
            refine md_gA S hC hM 4 (by decide) rfl qw_a8caa30de3 dModel_type_154 ?_
            refine lv_iload_n hx hb dModel_type_157 rfl (lv_at hl 1 rfl) ?_
            refine md_ild S hC hM 4 2 4000 (τ 4) rfl rfl (by decide) rfl rfl (vin (by assumption) (by omega)) dModel_type_158 ?_
            refine lv_topi (fun v153 ev153 => ?_)
            refine lv_iconst (v := 2) hx hb dModel_type_159 (by decide) ?_
            refine lv_icmp_eq (tgt := 171) hx hb dModel_type_160 (by decide) (fun c154 => ?_) (fun c154 => ?_)
            · have hm2 := mn_eq2 hTR hx1 ev153 (by assumption)
              refine lv_aload_n hx hb dModel_type_171 rfl (lv_at hl 0 rfl) ?_
              refine md_gA S hC hM 3 (by decide) rfl qw_9fb851a5fa dModel_type_172 ?_
              refine lv_iload_n hx hb dModel_type_175 rfl (lv_at hl 1 rfl) ?_
              refine md_ild S hC hM 3 1 4000 (τ 3) rfl rfl (by decide) rfl rfl (vin (by assumption) (by omega)) dModel_type_176 ?_
              refine lv_topi (fun v155 ev155 => ?_)
              refine lv_iload hx hb dModel_type_177 (lv_at hl 4 rfl) ?_
              refine lv_bipush (v := 11) hx hb dModel_type_179 (by decide) ?_
              have J189 : ∀ (ls : Array Slot) (t0_189 : Int32), (Oq OUT (Q_type_189 κ τ σ F nu x1 t0_14   t0_189)) → lv_has ls 13 [(0, .ref a), (1, .int x1), (2, .int v87), (3, .int r90), (4, .int v92)] → W p l e (bs_rm 7 0 0 177) s m args below meth c H locs 0 0 Q (F0 m 189 ls [.int t0_189, .int v155]) := by
                intro ls t0_189 hO hl
                refine lv_icmp_eq (tgt := 199) hx hb dModel_type_189 (by decide) (fun c207 => ?_) (fun c207 => ?_)
                · refine lv_aload_n hx hb dModel_type_199 rfl (lv_at hl 0 rfl) ?_
                  refine lv_iload_n hx hb dModel_type_200 rfl (lv_at hl 1 rfl) ?_
                  refine lv_iconst (v := 1) hx hb dModel_type_201 (by decide) ?_
                  have hpr208 : vp_in x1 (κ 0) := (vin (by assumption) (by omega))
                  have hjr208 : vp_in 1 (mn x1.toNatClampNeg) := (vp1 (by omega) (by omega))
                  refine pu_Vi (rest := []) S hC (n_child l γ a B Z κ b mn ν τ σr90 Fr90 nur90 hT x1 1 hpr208 hjr208) meModel_child qw_a66d450e0a ⟨Nat.le_of_ble_eq_true rfl, Nat.le_of_ble_eq_true rfl⟩ (md_rv hC hM) hM rfl hl.1 rfl (Nat.le_of_ble_eq_true rfl) dModel_type_202 ⟨Nat.zero_le _, Nat.zero_le _⟩ (fun r208 hr208 => ?_)
                  obtain ⟨hr208, er208⟩ := hr208
                  obtain ⟨hir208, hltr208, hxr208⟩ := ch_in hTR hs0 hpr208 hjr208 hr208
                  refine lv_istore (lv' := [(5, .int r208), (0, .ref a), (1, .int x1), (2, .int v87), (3, .int r90), (4, .int v92)]) hx hb dModel_type_205 hl (by decide) rfl (fun ls hl => ?_)
                  refine lv_aload_n hx hb dModel_type_207 rfl (lv_at hl 1 rfl) ?_
                  refine lv_iload_n hx hb dModel_type_208 rfl (lv_at hl 2 rfl) ?_
                  refine lv_iconst (v := 0) hx hb dModel_type_209 (by decide) ?_
                  have hpr209 : vp_in x1 (κ 0) := (vin (by assumption) (by omega))
                  have hjr209 : vp_in 0 (mn x1.toNatClampNeg) := (vp0 (by omega) (by omega))
                  refine pu_Vi (rest := []) S hC (n_child l γ a B Z κ b mn ν τ σr90 Fr90 nur90 hT x1 0 hpr209 hjr209) meModel_child qw_a66d450e0a ⟨Nat.le_of_ble_eq_true rfl, Nat.le_of_ble_eq_true rfl⟩ (md_rv hC hM) hM rfl hl.1 rfl (Nat.le_of_ble_eq_true rfl) dModel_type_210 ⟨Nat.zero_le _, Nat.zero_le _⟩ (fun r209 hr209 => ?_)
                  obtain ⟨hr209, er209⟩ := hr209
                  obtain ⟨hir209, hltr209, hxr209⟩ := ch_in hTR hs0 hpr209 hjr209 hr209
                  refine lv_istore (lv' := [(6, .int r209), (5, .int r208), (0, .ref a), (1, .int x1), (2, .int v87), (3, .int r90), (4, .int v92)]) hx hb dModel_type_213 hl (by decide) rfl (fun ls hl => ?_)
                  refine lv_aload_n hx hb dModel_type_215 rfl (lv_at hl 2 rfl) ?_
                  refine md_gA S hC hM 9 (by decide) rfl qw_a119aeeca0 dModel_type_216 ?_
                  refine lv_iload hx hb dModel_type_219 (lv_at hl 1 rfl) ?_
                  refine md_ild S hC hM 9 5 10000 (Fr90 9) rfl rfl (by decide) rfl rfl (vin (by assumption) (by omega)) dModel_type_221 ?_
                  refine lv_topi (fun v210 ev210 => ?_)
                  refine lv_iconst (v := 2) hx hb dModel_type_222 (by decide) ?_
                  have J237 : ∀ (ls : Array Slot), (Oq OUT (Q_type_237 κ τ σ F nu x1 t0_14 t0_189   )) → lv_has ls 13 [(0, .ref a), (1, .int x1), (2, .int v87), (3, .int r90), (4, .int v92), (5, .int r208), (6, .int r209)] → W p l e (bs_rm 7 0 0 177) s m args below meth c H locs 0 0 Q (F0 m 237 ls []) := by
                    intro ls hO hl
                    refine lv_aload_n hx hb dModel_type_237 rfl (lv_at hl 0 rfl) ?_
                    refine lv_iload_n hx hb dModel_type_238 rfl (lv_at hl 1 rfl) ?_
                    refine lv_iconst (v := 3) hx hb dModel_type_239 (by decide) ?_
                    refine mu_Vi (rest := []) S hC (fun q h => hA q (Nat.le_trans hS.1 h)) (fun q h => h) hS (n_wrong l γ a B Z κ b mn ν τ σr90 Fr90 nur90 hT x1 3 hF) meModel_wrong qw_a6e9824456 ⟨Nat.le_of_ble_eq_true rfl, Nat.le_of_ble_eq_true rfl⟩ (md_rv hC hM) hM rfl hl.1 rfl (Nat.le_of_ble_eq_true rfl) dModel_type_240 ⟨Nat.le_refl _, Nat.le_refl _⟩ (fun r256 H locs hPO hS _ _ => ?_)
                    obtain ⟨σr256, eOr256, hM, hF, h0r256⟩ := hPO
                    have er256 : r256 = (Q_wrong κ τ σr90 Fr90 nur90 x1 3).1 := by rw [eOr256.eq]
                    have eσr256 : σr256 = (Q_wrong κ τ σr90 Fr90 nur90 x1 3).2.1 := by rw [eOr256.eq]
                    clear eOr256
                    exact hE _ _ _ _ _ hS ⟨κ, _, _, _, τ, σr256, Fr90, nur90, (by subst eσr256 er256 ev210 er209 er208 ev155 ev153 ev92 enur90 eFr90 eσr90 er90 ev89 ev88 ev87 ev85 eσ84 er1; exact hO.tr rfl), hT, hZ, hF, hG, hM⟩ dModel_type_243
                  refine lv_icmp_ne (tgt := 237) hx hb dModel_type_223 (by decide) (fun c257 => ?_) (fun c257 => ?_)
                  · exact J237 ls (by subst ev210 er209 er208 ev155 ev153 ev92 enur90 eFr90 eσr90 er90 ev89 ev88 ev87 ev85 eσ84 er1; exact hO.tr ((if_pos c207).trans (if_neg c257))) (lv_sub hl [2, 3, 4, 5, 6, 1, 0] rfl)
                  · refine lv_aload_n hx hb dModel_type_226 rfl (lv_at hl 2 rfl) ?_
                    refine md_gA S hC hM 9 (by decide) rfl qw_a119aeeca0 dModel_type_227 ?_
                    refine lv_iload hx hb dModel_type_230 (lv_at hl 0 rfl) ?_
                    refine md_ild S hC hM 9 5 10000 (Fr90 9) rfl rfl (by decide) rfl rfl (vin (by assumption) (by omega)) dModel_type_232 ?_
                    refine lv_topi (fun v258 ev258 => ?_)
                    refine lv_iconst (v := 2) hx hb dModel_type_233 (by decide) ?_
                    refine lv_icmp_eq (tgt := 244) hx hb dModel_type_234 (by decide) (fun c259 => ?_) (fun c259 => ?_)
                    · refine lv_aload_n hx hb dModel_type_244 rfl (lv_at hl 2 rfl) ?_
                      refine md_gA S hC hM 11 (by decide) rfl qw_88b9028ba7 dModel_type_245 ?_
                      refine lv_iload hx hb dModel_type_248 (lv_at hl 1 rfl) ?_
                      refine md_zld S hC hM 11 7 10000 (Fr90 11) rfl rfl (by decide) rfl rfl (vin (by assumption) (by omega)) dModel_type_250 ?_
                      refine lv_topi (fun v260 ev260 => ?_)
                      have J264 : ∀ (ls : Array Slot), (Oq OUT (Q_type_264 κ τ σ F nu x1 t0_14 t0_189   )) → lv_has ls 13 [(0, .ref a), (1, .int x1), (2, .int v87), (3, .int r90), (4, .int v92), (5, .int r208), (6, .int r209)] → W p l e (bs_rm 7 0 0 177) s m args below meth c H locs 0 0 Q (F0 m 264 ls []) := by
                        intro ls hO hl
                        refine lv_aload_n hx hb dModel_type_264 rfl (lv_at hl 0 rfl) ?_
                        refine lv_iload_n hx hb dModel_type_265 rfl (lv_at hl 1 rfl) ?_
                        refine mu_Vi (rest := []) S hC (fun q h => hA q (Nat.le_trans hS.1 h)) (fun q h => h) hS (n_constantFault l γ a B Z κ b mn ν τ σr90 Fr90 nur90 hT x1 hF) meModel_constantFault qw_e91042951e ⟨Nat.le_of_ble_eq_true rfl, Nat.le_of_ble_eq_true rfl⟩ (md_rv hC hM) hM rfl hl.1 rfl (Nat.le_of_ble_eq_true rfl) dModel_type_266 ⟨Nat.le_refl _, Nat.le_refl _⟩ (fun r301 H locs hPO hS _ _ => ?_)
                        obtain ⟨σr301, eOr301, hM, hF, h0r301⟩ := hPO
                        have er301 : r301 = (Q_constantFault κ τ σr90 Fr90 nur90 x1).1 := by rw [eOr301.eq]
                        have eσr301 : σr301 = (Q_constantFault κ τ σr90 Fr90 nur90 x1).2.1 := by rw [eOr301.eq]
                        clear eOr301
                        exact hE _ _ _ _ _ hS ⟨κ, _, _, _, τ, σr301, Fr90, nur90, (by subst eσr301 er301 ev260 ev258 ev210 er209 er208 ev155 ev153 ev92 enur90 eFr90 eσr90 er90 ev89 ev88 ev87 ev85 eσ84 er1; exact hO.tr rfl), hT, hZ, hF, hG, hM⟩ dModel_type_269
                      refine lv_if_eq (tgt := 264) hx hb dModel_type_251 (by decide) (fun c302 => ?_) (fun c302 => ?_)
                      · exact J264 ls (by subst ev260 ev258 ev210 er209 er208 ev155 ev153 ev92 enur90 eFr90 eσr90 er90 ev89 ev88 ev87 ev85 eσ84 er1; exact hO.tr ((if_pos c207).trans ((if_pos c257).trans ((if_pos c259).trans (if_pos c302))))) (lv_sub hl [2, 3, 4, 5, 6, 1, 0] rfl)
                      · refine lv_aload_n hx hb dModel_type_254 rfl (lv_at hl 2 rfl) ?_
                        refine md_gA S hC hM 11 (by decide) rfl qw_88b9028ba7 dModel_type_255 ?_
                        refine lv_iload hx hb dModel_type_258 (lv_at hl 0 rfl) ?_
                        refine md_zld S hC hM 11 7 10000 (Fr90 11) rfl rfl (by decide) rfl rfl (vin (by assumption) (by omega)) dModel_type_260 ?_
                        refine lv_topi (fun v303 ev303 => ?_)
                        refine lv_if_ne (tgt := 270) hx hb dModel_type_261 (by decide) (fun c304 => ?_) (fun c304 => ?_)
                        · have hba := ty_gk hTR hs0 hx1 hbg.2 hpm (hgtr90 (Int32.not_lt.mpr (by assumption))) hjr208 hxr208 (ev210.symm.trans (by assumption))
                          have hbb := ty_gk hTR hs0 hx1 hbg.2 hpm (hgtr90 (Int32.not_lt.mpr (by assumption))) hjr209 hxr209 (ev258.symm.trans (by assumption))
                          refine lv_aload_n hx hb dModel_type_270 rfl (lv_at hl 2 rfl) ?_
                          refine md_gA S hC hM 13 (by decide) rfl qw_7b809afc8c dModel_type_271 ?_
                          refine lv_iload hx hb dModel_type_274 (lv_at hl 1 rfl) ?_
                          refine md_lld S hC hM (vin (by assumption) (by omega)) dModel_type_276 ?_
                          refine lv_topl (fun v305 ev305 => ?_)
                          have ev305 : v305 = nur90 r208.toNatClampNeg := ev305
                          refine lv_lstore (lv' := [(7, .long v305), (6, .int r209), (5, .int r208), (0, .ref a), (1, .int x1), (2, .int v87), (3, .int r90), (4, .int v92)]) hx hb dModel_type_277 hl (by decide) rfl (fun ls hl => ?_)
                          refine lv_aload_n hx hb dModel_type_279 rfl (lv_at hl 3 rfl) ?_
                          refine md_gA S hC hM 13 (by decide) rfl qw_7b809afc8c dModel_type_280 ?_
                          refine lv_iload hx hb dModel_type_283 (lv_at hl 1 rfl) ?_
                          refine md_lld S hC hM (vin (by assumption) (by omega)) dModel_type_285 ?_
                          refine lv_topl (fun v306 ev306 => ?_)
                          have ev306 : v306 = nur90 r209.toNatClampNeg := ev306
                          refine lv_lstore (lv' := [(9, .long v306), (7, .long v305), (6, .int r209), (5, .int r208), (0, .ref a), (1, .int x1), (2, .int v87), (3, .int r90), (4, .int v92)]) hx hb dModel_type_286 hl (by decide) rfl (fun ls hl => ?_)
                          rw [← ev305] at hba
                          rw [← ev306] at hbb
                          refine lv_iload hx hb dModel_type_288 (lv_at hl 8 rfl) ?_
                          refine lv_bipush (v := 11) hx hb dModel_type_290 (by decide) ?_
                          have J311 : ∀ (ls : Array Slot), (Oq OUT (Q_type_311 κ τ σ F nu x1 t0_14 t0_189   )) → lv_has ls 13 [(0, .ref a), (1, .int x1), (2, .int v87), (3, .int r90), (4, .int v92), (5, .int r208), (6, .int r209), (7, .long v305), (9, .long v306)] → W p l e (bs_rm 7 0 0 177) s m args below meth c H locs 0 0 Q (F0 m 311 ls []) := by
                            intro ls hO hl
                            refine lv_iload hx hb dModel_type_311 (lv_at hl 4 rfl) ?_
                            refine lv_bipush (v := 12) hx hb dModel_type_313 (by decide) ?_
                            have J346 : ∀ (ls : Array Slot) (t0_346 : Int64), ((v92 = 12 ∧ t0_346 = v306 - v305 + 1) ∨ (v92 = 13 ∧ t0_346 = v305 - v306 + 1) ∨ (¬ v92 = 12 ∧ ¬ v92 = 13)) → (Oq OUT (Q_type_346 κ τ σ F nu x1 t0_14 t0_189   t0_346)) → lv_has ls 13 [(0, .ref a), (1, .int x1), (2, .int v87), (3, .int r90), (4, .int v92), (5, .int r208), (6, .int r209), (7, .long v305), (9, .long v306)] → W p l e (bs_rm 7 0 0 177) s m args below meth c H locs 0 0 Q (F0 m 346 ls [.long t0_346]) := by
                              intro ls t0_346 ht0_346 hO hl
                              refine lv_lstore (lv' := [(11, .long t0_346), (0, .ref a), (1, .int x1), (2, .int v87), (3, .int r90), (4, .int v92), (5, .int r208), (6, .int r209), (7, .long v305), (9, .long v306)]) hx hb dModel_type_346 hl (by decide) rfl (fun ls hl => ?_)
                              refine lv_lload hx hb dModel_type_348 (lv_at hl 0 rfl) ?_
                              refine lv_ldc2 (v := 64) hx hb hown (hW _ qw_3f44df6941) dModel_type_350 ?_
                              refine W.lcmp hx hb dModel_type_353 ?_
                              refine lv_topi (fun v371 ev371 => ?_)
                              refine lv_if_le (tgt := 364) hx hb dModel_type_354 (by decide) (fun c372 => ?_) (fun c372 => ?_)
                              · have h64 : t0_346.toInt ≤ 64 := c_le64 ev371 (by assumption)
                                refine lv_iload hx hb dModel_type_364 (lv_at hl 5 rfl) ?_
                                refine lv_bipush (v := 11) hx hb dModel_type_366 (by decide) ?_
                                have J400 : ∀ (ls : Array Slot), (v92 ≤ 11 ∨ (1 ≤ t0_346.toInt ∧ 0 ≤ v305.toInt ∧ 0 ≤ v306.toInt)) → (Oq OUT (Q_type_400 κ τ σ F nu x1 t0_14 t0_189 t0_346   )) → lv_has ls 13 [(0, .ref a), (1, .int x1), (2, .int v87), (3, .int r90), (4, .int v92), (5, .int r208), (6, .int r209), (7, .long v305), (9, .long v306), (11, .long t0_346)] → W p l e (bs_rm 7 0 0 177) s m args below meth c H locs 0 0 Q (F0 m 400 ls []) := by
                                  intro ls h400 hO hl
                                  refine lv_aload_n hx hb dModel_type_400 rfl (lv_at hl 0 rfl) ?_
                                  refine md_gI S hC hM 21 (v := nI (κ 2)) hv21 (by decide) rfl qw_c82bee9e97 dModel_type_401 ?_
                                  refine lv_topi (fun v394 ev394 => ?_)
                                  refine lv_sipush (v := 1000) hx hb dModel_type_404 (by decide) ?_
                                  refine lv_icmp_ne (tgt := 422) hx hb dModel_type_407 (by decide) (fun c395 => ?_) (fun c395 => ?_)
                                  · have hN2 : κ 2 < 1000 := ne_lt ev394 (by assumption) rfl hs2
                                    refine lv_aload_n hx hb dModel_type_422 rfl (lv_at hl 0 rfl) ?_
                                    refine lv_aload_n hx hb dModel_type_423 rfl (lv_at hl 0 rfl) ?_
                                    refine md_gA S hC hM 5 (by decide) rfl qw_7e4081a75e dModel_type_424 ?_
                                    refine lv_iload_n hx hb dModel_type_427 rfl (lv_at hl 1 rfl) ?_
                                    refine md_ild S hC hM 5 3 4000 (τ 5) rfl rfl (by decide) rfl rfl (vin (by assumption) (by omega)) dModel_type_428 ?_
                                    refine lv_topi (fun v396 ev396 => ?_)
                                    refine lv_iload_n hx hb dModel_type_429 rfl (lv_at hl 1 rfl) ?_
                                    refine lv_iconst (v := 1) hx hb dModel_type_430 (by decide) ?_
                                    refine lv_isub hx hb dModel_type_431 ?_
                                    refine lv_topi (fun v397 ev397 => ?_)
                                    have hbg2 := bg_ok hTR hs0 hx1 ev396
                                    have hpw : v89 = v397 := ev89.trans ev397.symm
                                    have hpm2 := pm_int hx1 hs0 ev397
                                    refine mu_Vv (rest := []) S hC (fun q h => hA q (Nat.le_trans hS.1 h)) (fun q h => h) hS (n_keep l γ a B Z κ b mn ν τ σr90 Fr90 nur90 hT v396 v397 hbg2.1 (by have := vix hx1; omega) hZ hG (fun j h7 h8 h9 => hgtr90 (Int32.not_lt.mpr (by assumption)) j (by rw [hbg.2]; rw [hbg2.2] at h7; exact h7) (by rw [hpw]; exact h8) (by rw [hpw]; exact h9))) meModel_keep qw_8cce6d7b5c ⟨Nat.le_of_ble_eq_true rfl, Nat.le_of_ble_eq_true rfl⟩ (md_rv hC hM) hM rfl hl.1 rfl (Nat.le_of_ble_eq_true rfl) dModel_type_432 ⟨Nat.le_refl _, Nat.le_refl _⟩ (fun H locs hPO hS _ _ => ?_)
                                    obtain ⟨Fr398, nur398, eOr398, hM, hZ, hG⟩ := hPO
                                    have eFr398 : Fr398 = (Q_keep κ τ σr90 Fr90 nur90 v396 v397).2.1 := by rw [eOr398.eq]
                                    have enur398 : nur398 = (Q_keep κ τ σr90 Fr90 nur90 v396 v397).2.2 := by rw [eOr398.eq]
                                    clear eOr398
                                    refine lv_aload_n hx hb dModel_type_435 rfl (lv_at hl 0 rfl) ?_
                                    refine lv_iload hx hb dModel_type_436 (lv_at hl 4 rfl) ?_
                                    refine lv_bipush (v := 11) hx hb dModel_type_438 (by decide) ?_
                                    have J448 : ∀ (ls : Array Slot) (t0_448 : Int32), ((t0_448 = 2 ∧ v92 = 11) ∨ (t0_448 = 3 ∧ ¬ v92 = 11)) → (Oq OUT (Q_type_448 κ τ σ F nu x1 t0_14 t0_189 t0_346   t0_448)) → lv_has ls 13 [(0, .ref a), (1, .int x1), (2, .int v87), (3, .int r90), (4, .int v92), (5, .int r208), (6, .int r209), (7, .long v305), (9, .long v306), (11, .long t0_346)] → W p l e (bs_rm 7 0 0 177) s m args below meth c H locs 0 0 Q (F0 m 448 ls [.int t0_448, .ref a]) := by
                                      intro ls t0_448 ht0_448 hO hl
                                      refine lv_lload hx hb dModel_type_448 (lv_at hl 7 rfl) ?_
                                      refine lv_l2i hx hb dModel_type_450 rfl ?_
                                      refine lv_topi (fun v405 ev405 => ?_)
                                      refine lv_lload hx hb dModel_type_451 (lv_at hl 8 rfl) ?_
                                      refine lv_l2i hx hb dModel_type_453 rfl ?_
                                      refine lv_topi (fun v406 ev406 => ?_)
                                      refine lv_lload hx hb dModel_type_454 (lv_at hl 9 rfl) ?_
                                      refine lv_l2i hx hb dModel_type_456 rfl ?_
                                      refine lv_topi (fun v407 ev407 => ?_)
                                      refine lv_iload hx hb dModel_type_457 (lv_at hl 4 rfl) ?_
                                      refine lv_bipush (v := 13) hx hb dModel_type_459 (by decide) ?_
                                      have J469 : ∀ (ls : Array Slot) (t0_469 : Int32), ((t0_469 = 1 ∧ v92 = 13) ∨ (t0_469 = 0 ∧ ¬ v92 = 13)) → (Oq OUT (Q_type_469 κ τ σ F nu x1 t0_14 t0_189 t0_346 t0_448   t0_469)) → lv_has ls 13 [(0, .ref a), (1, .int x1), (2, .int v87), (3, .int r90), (4, .int v92), (5, .int r208), (6, .int r209), (7, .long v305), (9, .long v306), (11, .long t0_346)] → W p l e (bs_rm 7 0 0 177) s m args below meth c H locs 0 0 Q (F0 m 469 ls [.int t0_469, .int v407, .int v406, .int v405, .int t0_448, .ref a]) := by
                                        intro ls t0_469 ht0_469 hO hl
                                        refine mu_Vi (rest := []) S hC (fun q h => hA q (Nat.le_trans hS.1 h)) (fun q h => h) hS (n_newType l γ a B Z κ b mn ν τ σr90 Fr398 nur398 hT t0_448 v405 v406 v407 t0_469 (by omega) (ty_row ht0_448 ht0_469 h153 ht0_346 h64 h400 hba hbb ev405 ev406 ev407)) meModel_newType qw_90495fa5dd ⟨Nat.le_of_ble_eq_true rfl, Nat.le_of_ble_eq_true rfl⟩ (md_rv hC hM) hM rfl hl.1 rfl (Nat.le_of_ble_eq_true rfl) dModel_type_469 ⟨Nat.le_refl _, Nat.le_refl _⟩ (fun r410 H locs hPO hS _ _ => ?_)
                                        obtain ⟨hrr410, ν_r410, τ_r410, eOr410, hM, hT_r410⟩ := hPO
                                        have er410 : r410 = (Q_newType κ τ σr90 Fr398 nur398 t0_448 v405 v406 v407 t0_469).1 := by rw [eOr410.eq]
                                        have eτ_r410 : τ_r410 = (Q_newType κ τ σr90 Fr398 nur398 t0_448 v405 v406 v407 t0_469).2.2.1 := by rw [eOr410.eq]
                                        clear eOr410
                                        obtain ⟨κ_r410, hκ_r410⟩ : ∃ z : Nat → Nat, z = ku κ 2 (κ 2 + 1) := ⟨_, rfl⟩
                                        rw [← hκ_r410] at hT_r410
                                        obtain ⟨⟨hs0_r410, hs1_r410, hs2_r410, hs3_r410, hs4_r410, hs5_r410, hs6_r410⟩, ⟨hv6_r410, hv8_r410, hv21_r410, hv24_r410, hv30_r410, hv31_r410⟩, hTR_r410, hTY_r410, hOB_r410, hNM_r410⟩ := id hT_r410
                                        exact hE _ _ _ _ _ hS ⟨κ_r410, _, _, _, τ_r410, σr90, Fr398, nur398, (by subst hκ_r410 eτ_r410 er410 ev407 ev406 ev405 enur398 eFr398 ev397 ev396 ev394 ev371 ev306 ev305 ev303 ev260 ev258 ev210 er209 er208 ev155 ev153 ev92 enur90 eFr90 eσr90 er90 ev89 ev88 ev87 ev85 eσ84 er1; exact hO.tr rfl), hT_r410, hZ, hF, hG, hM⟩ dModel_type_472
                                      refine lv_icmp_ne (tgt := 468) hx hb dModel_type_461 (by decide) (fun c411 => ?_) (fun c411 => ?_)
                                      · refine lv_iconst (v := 0) hx hb dModel_type_468 (by decide) ?_
                                        exact J469 ls 0 (by first | exact Or.inl ⟨rfl, by assumption⟩ | exact Or.inr ⟨rfl, by assumption⟩) (by subst ev407 ev406 ev405 enur398 eFr398 ev397 ev396 ev394 ev371 ev306 ev305 ev303 ev260 ev258 ev210 er209 er208 ev155 ev153 ev92 enur90 eFr90 eσr90 er90 ev89 ev88 ev87 ev85 eσ84 er1; exact hO.tr (if_neg c411)) (lv_sub hl [0, 1, 2, 3, 4, 5, 6, 7, 8, 9] rfl)
                                      · refine lv_iconst (v := 1) hx hb dModel_type_464 (by decide) ?_
                                        refine lv_goto (tgt := 469) hx hb dModel_type_465 (by decide) ?_
                                        exact J469 ls 1 (by first | exact Or.inl ⟨rfl, by assumption⟩ | exact Or.inr ⟨rfl, by assumption⟩) (by subst ev407 ev406 ev405 enur398 eFr398 ev397 ev396 ev394 ev371 ev306 ev305 ev303 ev260 ev258 ev210 er209 er208 ev155 ev153 ev92 enur90 eFr90 eσr90 er90 ev89 ev88 ev87 ev85 eσ84 er1; exact hO.tr (if_pos c411)) (lv_sub hl [0, 1, 2, 3, 4, 5, 6, 7, 8, 9] rfl)
                                    refine lv_icmp_ne (tgt := 447) hx hb dModel_type_440 (by decide) (fun c412 => ?_) (fun c412 => ?_)
                                    · refine lv_iconst (v := 3) hx hb dModel_type_447 (by decide) ?_
                                      exact J448 ls 3 (by first | exact Or.inl ⟨rfl, by assumption⟩ | exact Or.inr ⟨rfl, by assumption⟩) (by subst enur398 eFr398 ev397 ev396 ev394 ev371 ev306 ev305 ev303 ev260 ev258 ev210 er209 er208 ev155 ev153 ev92 enur90 eFr90 eσr90 er90 ev89 ev88 ev87 ev85 eσ84 er1; exact hO.tr ((if_neg c395).trans (if_neg c412))) (lv_sub hl [0, 1, 2, 3, 4, 5, 6, 7, 8, 9] rfl)
                                    · refine lv_iconst (v := 2) hx hb dModel_type_443 (by decide) ?_
                                      refine lv_goto (tgt := 448) hx hb dModel_type_444 (by decide) ?_
                                      exact J448 ls 2 (by first | exact Or.inl ⟨rfl, by assumption⟩ | exact Or.inr ⟨rfl, by assumption⟩) (by subst enur398 eFr398 ev397 ev396 ev394 ev371 ev306 ev305 ev303 ev260 ev258 ev210 er209 er208 ev155 ev153 ev92 enur90 eFr90 eσr90 er90 ev89 ev88 ev87 ev85 eσ84 er1; exact hO.tr ((if_neg c395).trans (if_pos c412))) (lv_sub hl [0, 1, 2, 3, 4, 5, 6, 7, 8, 9] rfl)
                                  · refine lv_aload_n hx hb dModel_type_410 rfl (lv_at hl 0 rfl) ?_
                                    refine lv_iconst (v := 2) hx hb dModel_type_411 (by decide) ?_
                                    refine md_pD S hC hM hS 0 rfl (by decide) rfl qw_53e275eed6 rfl (by decide +kernel) dModel_type_412 (fun H locs hM hS => ?_)
                                    obtain ⟨σ413, eσ413⟩ : ∃ z : Nat → Int32, z = upd σr90 0 2 := ⟨_, rfl⟩
                                    rw [← eσ413] at hM
                                    have hF : FD σ413 := hF.up eσ413 (by decide) (by decide)
                                    refine lv_aload_n hx hb dModel_type_415 rfl (lv_at hl 0 rfl) ?_
                                    refine lv_iload_n hx hb dModel_type_416 rfl (lv_at hl 2 rfl) ?_
                                    refine md_pD S hC hM hS 1 rfl (by decide) rfl qw_d4a57461ea rfl (by decide +kernel) dModel_type_417 (fun H locs hM hS => ?_)
                                    obtain ⟨σ414, eσ414⟩ : ∃ z : Nat → Int32, z = upd σ413 1 v87 := ⟨_, rfl⟩
                                    rw [← eσ414] at hM
                                    have hF : FD σ414 := hF.up eσ414 (by decide) (by decide)
                                    refine lv_iconst (v := 0) hx hb dModel_type_420 (by decide) ?_
                                    exact hE _ _ _ _ _ hS ⟨κ, _, _, _, τ, σ414, Fr90, nur90, (by subst eσ414 eσ413 ev394 ev371 ev306 ev305 ev303 ev260 ev258 ev210 er209 er208 ev155 ev153 ev92 enur90 eFr90 eσr90 er90 ev89 ev88 ev87 ev85 eσ84 er1; exact hO.tr (if_pos c395)), hT, hZ, hF, hG, hM⟩ dModel_type_421
                                refine lv_icmp_le (tgt := 400) hx hb dModel_type_368 (by decide) (fun c415 => ?_) (fun c415 => ?_)
                                · exact J400 ls (by first | exact Or.inl (by assumption) | exact Or.inr ⟨c_ge1 ev374 (by assumption), c_ge0 ev376 (by assumption), c_ge0 ev378 (Int32.not_lt.mpr (by assumption))⟩) (by subst ev371 ev306 ev305 ev303 ev260 ev258 ev210 er209 er208 ev155 ev153 ev92 enur90 eFr90 eσr90 er90 ev89 ev88 ev87 ev85 eσ84 er1; exact hO.tr ((if_pos c372).trans (if_pos c415))) (lv_sub hl [1, 2, 3, 4, 5, 6, 7, 8, 9, 0] rfl)
                                · refine lv_lload hx hb dModel_type_371 (lv_at hl 0 rfl) ?_
                                  refine lv_lconst (v := 1) hx hb dModel_type_373 (by decide) ?_
                                  refine W.lcmp hx hb dModel_type_374 ?_
                                  refine lv_topi (fun v416 ev416 => ?_)
                                  have J392 : ∀ (ls : Array Slot), (Oq OUT (Q_type_392 κ τ σ F nu x1 t0_14 t0_189 t0_346   )) → lv_has ls 13 [(0, .ref a), (1, .int x1), (2, .int v87), (3, .int r90), (4, .int v92), (5, .int r208), (6, .int r209), (7, .long v305), (9, .long v306), (11, .long t0_346)] → W p l e (bs_rm 7 0 0 177) s m args below meth c H locs 0 0 Q (F0 m 392 ls []) := by
                                    intro ls hO hl
                                    refine lv_aload_n hx hb dModel_type_392 rfl (lv_at hl 0 rfl) ?_
                                    refine lv_iload_n hx hb dModel_type_393 rfl (lv_at hl 1 rfl) ?_
                                    refine lv_bipush (v := 6) hx hb dModel_type_394 (by decide) ?_
                                    refine mu_Vi (rest := []) S hC (fun q h => hA q (Nat.le_trans hS.1 h)) (fun q h => h) hS (n_wrong l γ a B Z κ b mn ν τ σr90 Fr90 nur90 hT x1 6 hF) meModel_wrong qw_a6e9824456 ⟨Nat.le_of_ble_eq_true rfl, Nat.le_of_ble_eq_true rfl⟩ (md_rv hC hM) hM rfl hl.1 rfl (Nat.le_of_ble_eq_true rfl) dModel_type_396 ⟨Nat.le_refl _, Nat.le_refl _⟩ (fun r423 H locs hPO hS _ _ => ?_)
                                    obtain ⟨σr423, eOr423, hM, hF, h0r423⟩ := hPO
                                    have er423 : r423 = (Q_wrong κ τ σr90 Fr90 nur90 x1 6).1 := by rw [eOr423.eq]
                                    have eσr423 : σr423 = (Q_wrong κ τ σr90 Fr90 nur90 x1 6).2.1 := by rw [eOr423.eq]
                                    clear eOr423
                                    exact hE _ _ _ _ _ hS ⟨κ, _, _, _, τ, σr423, Fr90, nur90, (by subst eσr423 er423 ev416 ev371 ev306 ev305 ev303 ev260 ev258 ev210 er209 er208 ev155 ev153 ev92 enur90 eFr90 eσr90 er90 ev89 ev88 ev87 ev85 eσ84 er1; exact hO.tr rfl), hT, hZ, hF, hG, hM⟩ dModel_type_399
                                  refine lv_if_lt (tgt := 392) hx hb dModel_type_375 (by decide) (fun c424 => ?_) (fun c424 => ?_)
                                  · exact J392 ls (by subst ev416 ev371 ev306 ev305 ev303 ev260 ev258 ev210 er209 er208 ev155 ev153 ev92 enur90 eFr90 eσr90 er90 ev89 ev88 ev87 ev85 eσ84 er1; exact hO.tr ((if_pos c372).trans ((if_neg c415).trans (if_pos c424)))) (lv_sub hl [1, 2, 3, 4, 5, 6, 7, 8, 9, 0] rfl)
                                  · refine lv_lload hx hb dModel_type_378 (lv_at hl 8 rfl) ?_
                                    refine lv_lconst (v := 0) hx hb dModel_type_380 (by decide) ?_
                                    refine W.lcmp hx hb dModel_type_381 ?_
                                    refine lv_topi (fun v425 ev425 => ?_)
                                    refine lv_if_lt (tgt := 392) hx hb dModel_type_382 (by decide) (fun c426 => ?_) (fun c426 => ?_)
                                    · exact J392 ls (by subst ev425 ev416 ev371 ev306 ev305 ev303 ev260 ev258 ev210 er209 er208 ev155 ev153 ev92 enur90 eFr90 eσr90 er90 ev89 ev88 ev87 ev85 eσ84 er1; exact hO.tr ((if_pos c372).trans ((if_neg c415).trans ((if_neg c424).trans (if_pos c426))))) (lv_sub hl [1, 2, 3, 4, 5, 6, 7, 8, 9, 0] rfl)
                                    · refine lv_lload hx hb dModel_type_385 (lv_at hl 9 rfl) ?_
                                      refine lv_lconst (v := 0) hx hb dModel_type_387 (by decide) ?_
                                      refine W.lcmp hx hb dModel_type_388 ?_
                                      refine lv_topi (fun v427 ev427 => ?_)
                                      refine lv_if_ge (tgt := 400) hx hb dModel_type_389 (by decide) (fun c428 => ?_) (fun c428 => ?_)
                                      · exact J400 ls (by first | exact Or.inl (by assumption) | exact Or.inr ⟨c_ge1 ev416 (by assumption), c_ge0 ev425 (by assumption), c_ge0 ev427 (Int32.not_lt.mpr (by assumption))⟩) (by subst ev427 ev425 ev416 ev371 ev306 ev305 ev303 ev260 ev258 ev210 er209 er208 ev155 ev153 ev92 enur90 eFr90 eσr90 er90 ev89 ev88 ev87 ev85 eσ84 er1; exact hO.tr ((if_pos c372).trans ((if_neg c415).trans ((if_neg c424).trans ((if_neg c426).trans (if_pos c428)))))) (lv_sub hl [1, 2, 3, 4, 5, 6, 7, 8, 9, 0] rfl)
                                      · exact J392 ls (by subst ev427 ev425 ev416 ev371 ev306 ev305 ev303 ev260 ev258 ev210 er209 er208 ev155 ev153 ev92 enur90 eFr90 eσr90 er90 ev89 ev88 ev87 ev85 eσ84 er1; exact hO.tr ((if_pos c372).trans ((if_neg c415).trans ((if_neg c424).trans ((if_neg c426).trans (if_neg c428)))))) (lv_sub hl [1, 2, 3, 4, 5, 6, 7, 8, 9, 0] rfl)
                              · refine lv_aload_n hx hb dModel_type_357 rfl (lv_at hl 1 rfl) ?_
                                refine lv_iload_n hx hb dModel_type_358 rfl (lv_at hl 2 rfl) ?_
                                refine lv_iconst (v := 4) hx hb dModel_type_359 (by decide) ?_
                                refine mu_Vi (rest := []) S hC (fun q h => hA q (Nat.le_trans hS.1 h)) (fun q h => h) hS (n_wrong l γ a B Z κ b mn ν τ σr90 Fr90 nur90 hT x1 4 hF) meModel_wrong qw_a6e9824456 ⟨Nat.le_of_ble_eq_true rfl, Nat.le_of_ble_eq_true rfl⟩ (md_rv hC hM) hM rfl hl.1 rfl (Nat.le_of_ble_eq_true rfl) dModel_type_360 ⟨Nat.le_refl _, Nat.le_refl _⟩ (fun r429 H locs hPO hS _ _ => ?_)
                                obtain ⟨σr429, eOr429, hM, hF, h0r429⟩ := hPO
                                have er429 : r429 = (Q_wrong κ τ σr90 Fr90 nur90 x1 4).1 := by rw [eOr429.eq]
                                have eσr429 : σr429 = (Q_wrong κ τ σr90 Fr90 nur90 x1 4).2.1 := by rw [eOr429.eq]
                                clear eOr429
                                exact hE _ _ _ _ _ hS ⟨κ, _, _, _, τ, σr429, Fr90, nur90, (by subst eσr429 er429 ev371 ev306 ev305 ev303 ev260 ev258 ev210 er209 er208 ev155 ev153 ev92 enur90 eFr90 eσr90 er90 ev89 ev88 ev87 ev85 eσ84 er1; exact hO.tr (if_neg c372)), hT, hZ, hF, hG, hM⟩ dModel_type_363
                            refine lv_icmp_ne (tgt := 328) hx hb dModel_type_315 (by decide) (fun c430 => ?_) (fun c430 => ?_)
                            · refine lv_iload hx hb dModel_type_328 (lv_at hl 4 rfl) ?_
                              refine lv_bipush (v := 13) hx hb dModel_type_330 (by decide) ?_
                              refine lv_icmp_ne (tgt := 345) hx hb dModel_type_332 (by decide) (fun c431 => ?_) (fun c431 => ?_)
                              · refine lv_lconst (v := 0) hx hb dModel_type_345 (by decide) ?_
                                exact J346 ls 0 (by first | exact Or.inl ⟨by assumption, by rw [e0, ev345]⟩ | exact Or.inr (Or.inl ⟨by assumption, by rw [e0, ev345]⟩) | exact Or.inr (Or.inr ⟨by assumption, by assumption⟩)) (by subst ev306 ev305 ev303 ev260 ev258 ev210 er209 er208 ev155 ev153 ev92 enur90 eFr90 eσr90 er90 ev89 ev88 ev87 ev85 eσ84 er1; exact hO.tr ((if_neg c430).trans (if_neg c431))) (lv_sub hl [0, 1, 2, 3, 4, 5, 6, 7, 8] rfl)
                              · refine lv_lload hx hb dModel_type_335 (lv_at hl 7 rfl) ?_
                                refine lv_lload hx hb dModel_type_337 (lv_at hl 8 rfl) ?_
                                refine lv_lsub hx hb dModel_type_339 ?_
                                refine lv_topl (fun v432 ev432 => ?_)
                                refine lv_lconst (v := 1) hx hb dModel_type_340 (by decide) ?_
                                refine lv_ladd hx hb dModel_type_341 ?_
                                refine lv_topl (fun v433 ev433 => ?_)
                                refine lv_goto (tgt := 346) hx hb dModel_type_342 (by decide) ?_
                                exact J346 ls v433 (by first | exact Or.inl ⟨by assumption, by rw [ev433, ev432]⟩ | exact Or.inr (Or.inl ⟨by assumption, by rw [ev433, ev432]⟩) | exact Or.inr (Or.inr ⟨by assumption, by assumption⟩)) (by subst ev433 ev432 ev306 ev305 ev303 ev260 ev258 ev210 er209 er208 ev155 ev153 ev92 enur90 eFr90 eσr90 er90 ev89 ev88 ev87 ev85 eσ84 er1; exact hO.tr ((if_neg c430).trans (if_pos c431))) (lv_sub hl [0, 1, 2, 3, 4, 5, 6, 7, 8] rfl)
                            · refine lv_lload hx hb dModel_type_318 (lv_at hl 8 rfl) ?_
                              refine lv_lload hx hb dModel_type_320 (lv_at hl 7 rfl) ?_
                              refine lv_lsub hx hb dModel_type_322 ?_
                              refine lv_topl (fun v434 ev434 => ?_)
                              refine lv_lconst (v := 1) hx hb dModel_type_323 (by decide) ?_
                              refine lv_ladd hx hb dModel_type_324 ?_
                              refine lv_topl (fun v435 ev435 => ?_)
                              refine lv_goto (tgt := 346) hx hb dModel_type_325 (by decide) ?_
                              exact J346 ls v435 (by first | exact Or.inl ⟨by assumption, by rw [ev435, ev434]⟩ | exact Or.inr (Or.inl ⟨by assumption, by rw [ev435, ev434]⟩) | exact Or.inr (Or.inr ⟨by assumption, by assumption⟩)) (by subst ev435 ev434 ev306 ev305 ev303 ev260 ev258 ev210 er209 er208 ev155 ev153 ev92 enur90 eFr90 eσr90 er90 ev89 ev88 ev87 ev85 eσ84 er1; exact hO.tr (if_pos c430)) (lv_sub hl [0, 1, 2, 3, 4, 5, 6, 7, 8] rfl)
                          refine lv_icmp_ne (tgt := 311) hx hb dModel_type_292 (by decide) (fun c436 => ?_) (fun c436 => ?_)
                          · exact J311 ls (by subst ev306 ev305 ev303 ev260 ev258 ev210 er209 er208 ev155 ev153 ev92 enur90 eFr90 eσr90 er90 ev89 ev88 ev87 ev85 eσ84 er1; exact hO.tr ((if_pos c207).trans ((if_pos c257).trans ((if_pos c259).trans ((if_neg c302).trans ((if_neg c304).trans (if_neg c436))))))) (lv_sub hl [4, 5, 6, 7, 8, 3, 2, 1, 0] rfl)
                          · refine lv_lload hx hb dModel_type_295 (lv_at hl 1 rfl) ?_
                            refine lv_lload hx hb dModel_type_297 (lv_at hl 0 rfl) ?_
                            refine W.lcmp hx hb dModel_type_299 ?_
                            refine lv_topi (fun v437 ev437 => ?_)
                            refine lv_if_le (tgt := 311) hx hb dModel_type_300 (by decide) (fun c438 => ?_) (fun c438 => ?_)
                            · exact J311 ls (by subst ev437 ev306 ev305 ev303 ev260 ev258 ev210 er209 er208 ev155 ev153 ev92 enur90 eFr90 eσr90 er90 ev89 ev88 ev87 ev85 eσ84 er1; exact hO.tr ((if_pos c207).trans ((if_pos c257).trans ((if_pos c259).trans ((if_neg c302).trans ((if_neg c304).trans ((if_pos c436).trans (if_pos c438)))))))) (lv_sub hl [4, 5, 6, 7, 8, 3, 2, 1, 0] rfl)
                            · refine lv_aload_n hx hb dModel_type_303 rfl (lv_at hl 4 rfl) ?_
                              refine lv_iload_n hx hb dModel_type_304 rfl (lv_at hl 5 rfl) ?_
                              refine lv_bipush (v := 8) hx hb dModel_type_305 (by decide) ?_
                              refine mu_Vi (rest := []) S hC (fun q h => hA q (Nat.le_trans hS.1 h)) (fun q h => h) hS (n_wrong l γ a B Z κ b mn ν τ σr90 Fr90 nur90 hT x1 8 hF) meModel_wrong qw_a6e9824456 ⟨Nat.le_of_ble_eq_true rfl, Nat.le_of_ble_eq_true rfl⟩ (md_rv hC hM) hM rfl hl.1 rfl (Nat.le_of_ble_eq_true rfl) dModel_type_307 ⟨Nat.le_refl _, Nat.le_refl _⟩ (fun r439 H locs hPO hS _ _ => ?_)
                              obtain ⟨σr439, eOr439, hM, hF, h0r439⟩ := hPO
                              have er439 : r439 = (Q_wrong κ τ σr90 Fr90 nur90 x1 8).1 := by rw [eOr439.eq]
                              have eσr439 : σr439 = (Q_wrong κ τ σr90 Fr90 nur90 x1 8).2.1 := by rw [eOr439.eq]
                              clear eOr439
                              exact hE _ _ _ _ _ hS ⟨κ, _, _, _, τ, σr439, Fr90, nur90, (by subst eσr439 er439 ev437 ev306 ev305 ev303 ev260 ev258 ev210 er209 er208 ev155 ev153 ev92 enur90 eFr90 eσr90 er90 ev89 ev88 ev87 ev85 eσ84 er1; exact hO.tr ((if_pos c207).trans ((if_pos c257).trans ((if_pos c259).trans ((if_neg c302).trans ((if_neg c304).trans ((if_pos c436).trans (if_neg c438)))))))), hT, hZ, hF, hG, hM⟩ dModel_type_310
                        · exact J264 ls (by subst ev303 ev260 ev258 ev210 er209 er208 ev155 ev153 ev92 enur90 eFr90 eσr90 er90 ev89 ev88 ev87 ev85 eσ84 er1; exact hO.tr ((if_pos c207).trans ((if_pos c257).trans ((if_pos c259).trans ((if_neg c302).trans (if_pos c304)))))) (lv_sub hl [2, 3, 4, 5, 6, 1, 0] rfl)
                    · exact J237 ls (by subst ev258 ev210 er209 er208 ev155 ev153 ev92 enur90 eFr90 eσr90 er90 ev89 ev88 ev87 ev85 eσ84 er1; exact hO.tr ((if_pos c207).trans ((if_pos c257).trans (if_neg c259)))) (lv_sub hl [2, 3, 4, 5, 6, 1, 0] rfl)
                · refine lv_aload_n hx hb dModel_type_192 rfl (lv_at hl 0 rfl) ?_
                  refine lv_iload_n hx hb dModel_type_193 rfl (lv_at hl 1 rfl) ?_
                  refine lv_iconst (v := 2) hx hb dModel_type_194 (by decide) ?_
                  refine mu_Vi (rest := []) S hC (fun q h => hA q (Nat.le_trans hS.1 h)) (fun q h => h) hS (n_wrong l γ a B Z κ b mn ν τ σr90 Fr90 nur90 hT x1 2 hF) meModel_wrong qw_a6e9824456 ⟨Nat.le_of_ble_eq_true rfl, Nat.le_of_ble_eq_true rfl⟩ (md_rv hC hM) hM rfl hl.1 rfl (Nat.le_of_ble_eq_true rfl) dModel_type_195 ⟨Nat.le_refl _, Nat.le_refl _⟩ (fun r440 H locs hPO hS _ _ => ?_)
                  obtain ⟨σr440, eOr440, hM, hF, h0r440⟩ := hPO
                  have er440 : r440 = (Q_wrong κ τ σr90 Fr90 nur90 x1 2).1 := by rw [eOr440.eq]
                  have eσr440 : σr440 = (Q_wrong κ τ σr90 Fr90 nur90 x1 2).2.1 := by rw [eOr440.eq]
                  clear eOr440
                  exact hE _ _ _ _ _ hS ⟨κ, _, _, _, τ, σr440, Fr90, nur90, (by subst eσr440 er440 ev155 ev153 ev92 enur90 eFr90 eσr90 er90 ev89 ev88 ev87 ev85 eσ84 er1; exact hO.tr (if_neg c207)), hT, hZ, hF, hG, hM⟩ dModel_type_198
              refine lv_icmp_ne (tgt := 188) hx hb dModel_type_181 (by decide) (fun c441 => ?_) (fun c441 => ?_)
              · refine lv_iconst (v := 5) hx hb dModel_type_188 (by decide) ?_
                exact J189 ls 5 (by subst ev155 ev153 ev92 enur90 eFr90 eσr90 er90 ev89 ev88 ev87 ev85 eσ84 er1; exact hO.tr ((if_pos c154).trans (if_neg c441))) (lv_sub hl [0, 1, 2, 3, 4] rfl)
              · refine lv_iconst (v := 0) hx hb dModel_type_184 (by decide) ?_
                refine lv_goto (tgt := 189) hx hb dModel_type_185 (by decide) ?_
                exact J189 ls 0 (by subst ev155 ev153 ev92 enur90 eFr90 eσr90 er90 ev89 ev88 ev87 ev85 eσ84 er1; exact hO.tr ((if_pos c154).trans (if_pos c441))) (lv_sub hl [0, 1, 2, 3, 4] rfl)
            · exact J163 ls (by subst ev153 ev92 enur90 eFr90 eσr90 er90 ev89 ev88 ev87 ev85 eσ84 er1; exact hO.tr (if_neg c154)) (lv_sub hl [0, 1, 2, 3, 4] rfl)
          refine lv_icmp_eq (tgt := 153) hx hb dModel_type_136 (by decide) (fun c442 => ?_) (fun c442 => ?_)
          · exact J153 ls (by first | exact Or.inl (by assumption) | exact Or.inr (Or.inl (by assumption)) | exact Or.inr (Or.inr (by assumption))) (by subst ev92 enur90 eFr90 eσr90 er90 ev89 ev88 ev87 ev85 eσ84 er1; exact hO.tr ((if_pos c86).trans ((if_pos c91).trans ((if_neg c93).trans (if_pos c442))))) (lv_sub hl [3, 4, 2, 1, 0] rfl)
          · refine lv_iload hx hb dModel_type_139 (lv_at hl 0 rfl) ?_
            refine lv_bipush (v := 12) hx hb dModel_type_141 (by decide) ?_
            refine lv_icmp_eq (tgt := 153) hx hb dModel_type_143 (by decide) (fun c443 => ?_) (fun c443 => ?_)
            · exact J153 ls (by first | exact Or.inl (by assumption) | exact Or.inr (Or.inl (by assumption)) | exact Or.inr (Or.inr (by assumption))) (by subst ev92 enur90 eFr90 eσr90 er90 ev89 ev88 ev87 ev85 eσ84 er1; exact hO.tr ((if_pos c86).trans ((if_pos c91).trans ((if_neg c93).trans ((if_neg c442).trans (if_pos c443)))))) (lv_sub hl [3, 4, 2, 1, 0] rfl)
            · refine lv_iload hx hb dModel_type_146 (lv_at hl 0 rfl) ?_
              refine lv_bipush (v := 13) hx hb dModel_type_148 (by decide) ?_
              refine lv_icmp_ne (tgt := 163) hx hb dModel_type_150 (by decide) (fun c444 => ?_) (fun c444 => ?_)
              · exact J163 ls (by subst ev92 enur90 eFr90 eσr90 er90 ev89 ev88 ev87 ev85 eσ84 er1; exact hO.tr ((if_pos c86).trans ((if_pos c91).trans ((if_neg c93).trans ((if_neg c442).trans ((if_neg c443).trans (if_neg c444))))))) (lv_sub hl [3, 4, 2, 1, 0] rfl)
              · exact J153 ls (by first | exact Or.inl (by assumption) | exact Or.inr (Or.inl (by assumption)) | exact Or.inr (Or.inr (by assumption))) (by subst ev92 enur90 eFr90 eσr90 er90 ev89 ev88 ev87 ev85 eσ84 er1; exact hO.tr ((if_pos c86).trans ((if_pos c91).trans ((if_neg c93).trans ((if_neg c442).trans ((if_neg c443).trans (if_pos c444))))))) (lv_sub hl [3, 4, 2, 1, 0] rfl)
        · refine lv_aload_n hx hb dModel_type_67 rfl (lv_at hl 3 rfl) ?_
          refine md_gA S hC hM 4 (by decide) rfl qw_a8caa30de3 dModel_type_68 ?_
          refine lv_iload_n hx hb dModel_type_71 rfl (lv_at hl 4 rfl) ?_
          refine md_ild S hC hM 4 2 4000 (τ 4) rfl rfl (by decide) rfl rfl (vin (by assumption) (by omega)) dModel_type_72 ?_
          refine lv_topi (fun v445 ev445 => ?_)
          refine lv_if_le (tgt := 84) hx hb dModel_type_73 (by decide) (fun c446 => ?_) (fun c446 => ?_)
          · refine lv_aload_n hx hb dModel_type_84 rfl (lv_at hl 3 rfl) ?_
            refine lv_aload_n hx hb dModel_type_85 rfl (lv_at hl 3 rfl) ?_
            refine md_gA S hC hM 3 (by decide) rfl qw_9fb851a5fa dModel_type_86 ?_
            refine lv_iload_n hx hb dModel_type_89 rfl (lv_at hl 4 rfl) ?_
            refine md_ild S hC hM 3 1 4000 (τ 3) rfl rfl (by decide) rfl rfl (vin (by assumption) (by omega)) dModel_type_90 ?_
            refine lv_topi (fun v447 ev447 => ?_)
            refine mu_Vv (rest := []) S hC (fun q h => hA q (Nat.le_trans hS.1 h)) (fun q h => h) hS (n_find l γ a B Z κ b mn ν τ σr90 Fr90 nur90 hT v447 ) meModel_find qw_ece0c598e8 ⟨Nat.le_of_ble_eq_true rfl, Nat.le_of_ble_eq_true rfl⟩ (md_rv hC hM) hM rfl hl.1 rfl (Nat.le_of_ble_eq_true rfl) dModel_type_91 ⟨Nat.le_refl _, Nat.le_refl _⟩ (fun H locs hPO hS _ _ => ?_)
            obtain ⟨σr448, eOr448, hM, hF⟩ := hPO
            have eσr448 : σr448 = (Q_find κ τ σr90 Fr90 nur90 v447).1 := by rw [eOr448.eq]
            clear eOr448
            refine lv_aload_n hx hb dModel_type_94 rfl (lv_at hl 3 rfl) ?_
            refine md_gI S hC hM 32 (v := σr448 32) rfl (by decide) rfl qw_9d5e299446 dModel_type_95 ?_
            refine lv_topi (fun v449 ev449 => ?_)
            refine lv_iconst (v := 5) hx hb dModel_type_98 (by decide) ?_
            refine lv_icmp_ne (tgt := 111) hx hb dModel_type_99 (by decide) (fun c450 => ?_) (fun c450 => ?_)
            · refine lv_aload_n hx hb dModel_type_111 rfl (lv_at hl 3 rfl) ?_
              refine md_gI S hC hM 32 (v := σr448 32) rfl (by decide) rfl qw_9d5e299446 dModel_type_112 ?_
              refine lv_topi (fun v451 ev451 => ?_)
              refine lv_if_ne (tgt := 125) hx hb dModel_type_115 (by decide) (fun c452 => ?_) (fun c452 => ?_)
              · refine lv_aload_n hx hb dModel_type_125 rfl (lv_at hl 3 rfl) ?_
                refine lv_iload_n hx hb dModel_type_126 rfl (lv_at hl 4 rfl) ?_
                refine lv_iconst (v := 2) hx hb dModel_type_127 (by decide) ?_
                refine mu_Vi (rest := []) S hC (fun q h => hA q (Nat.le_trans hS.1 h)) (fun q h => h) hS (n_wrong l γ a B Z κ b mn ν τ σr448 Fr90 nur90 hT x1 2 hF) meModel_wrong qw_a6e9824456 ⟨Nat.le_of_ble_eq_true rfl, Nat.le_of_ble_eq_true rfl⟩ (md_rv hC hM) hM rfl hl.1 rfl (Nat.le_of_ble_eq_true rfl) dModel_type_128 ⟨Nat.le_refl _, Nat.le_refl _⟩ (fun r453 H locs hPO hS _ _ => ?_)
                obtain ⟨σr453, eOr453, hM, hF, h0r453⟩ := hPO
                have er453 : r453 = (Q_wrong κ τ σr448 Fr90 nur90 x1 2).1 := by rw [eOr453.eq]
                have eσr453 : σr453 = (Q_wrong κ τ σr448 Fr90 nur90 x1 2).2.1 := by rw [eOr453.eq]
                clear eOr453
                exact hE _ _ _ _ _ hS ⟨κ, _, _, _, τ, σr453, Fr90, nur90, (by subst eσr453 er453 ev451 ev449 eσr448 ev447 ev445 ev92 enur90 eFr90 eσr90 er90 ev89 ev88 ev87 ev85 eσ84 er1; exact hO.tr ((if_pos c86).trans ((if_pos c91).trans ((if_pos c93).trans ((if_pos c446).trans ((if_neg c450).trans (if_neg c452))))))), hT, hZ, hF, hG, hM⟩ dModel_type_131
              · refine lv_aload_n hx hb dModel_type_118 rfl (lv_at hl 3 rfl) ?_
                refine md_gI S hC hM 33 (v := σr448 33) rfl (by decide) rfl qw_c60a40a4a7 dModel_type_119 ?_
                refine lv_topi (fun v454 ev454 => ?_)
                refine lv_goto (tgt := 131) hx hb dModel_type_122 (by decide) ?_
                exact hE _ _ _ _ _ hS ⟨κ, _, _, _, τ, σr448, Fr90, nur90, (by subst ev454 ev451 ev449 eσr448 ev447 ev445 ev92 enur90 eFr90 eσr90 er90 ev89 ev88 ev87 ev85 eσ84 er1; exact hO.tr ((if_pos c86).trans ((if_pos c91).trans ((if_pos c93).trans ((if_pos c446).trans ((if_neg c450).trans (if_pos c452))))))), hT, hZ, hF, hG, hM⟩ dModel_type_131
            · refine lv_aload_n hx hb dModel_type_102 rfl (lv_at hl 3 rfl) ?_
              refine lv_iload_n hx hb dModel_type_103 rfl (lv_at hl 4 rfl) ?_
              refine lv_iconst (v := 1) hx hb dModel_type_104 (by decide) ?_
              refine mu_Vi (rest := []) S hC (fun q h => hA q (Nat.le_trans hS.1 h)) (fun q h => h) hS (n_wrong l γ a B Z κ b mn ν τ σr448 Fr90 nur90 hT x1 1 hF) meModel_wrong qw_a6e9824456 ⟨Nat.le_of_ble_eq_true rfl, Nat.le_of_ble_eq_true rfl⟩ (md_rv hC hM) hM rfl hl.1 rfl (Nat.le_of_ble_eq_true rfl) dModel_type_105 ⟨Nat.le_refl _, Nat.le_refl _⟩ (fun r455 H locs hPO hS _ _ => ?_)
              obtain ⟨σr455, eOr455, hM, hF, h0r455⟩ := hPO
              have er455 : r455 = (Q_wrong κ τ σr448 Fr90 nur90 x1 1).1 := by rw [eOr455.eq]
              have eσr455 : σr455 = (Q_wrong κ τ σr448 Fr90 nur90 x1 1).2.1 := by rw [eOr455.eq]
              clear eOr455
              refine lv_goto (tgt := 131) hx hb dModel_type_108 (by decide) ?_
              exact hE _ _ _ _ _ hS ⟨κ, _, _, _, τ, σr455, Fr90, nur90, (by subst eσr455 er455 ev449 eσr448 ev447 ev445 ev92 enur90 eFr90 eσr90 er90 ev89 ev88 ev87 ev85 eσ84 er1; exact hO.tr ((if_pos c86).trans ((if_pos c91).trans ((if_pos c93).trans ((if_pos c446).trans (if_pos c450)))))), hT, hZ, hF, hG, hM⟩ dModel_type_131
          · refine lv_aload_n hx hb dModel_type_76 rfl (lv_at hl 3 rfl) ?_
            refine lv_iload_n hx hb dModel_type_77 rfl (lv_at hl 4 rfl) ?_
            refine lv_bipush (v := 11) hx hb dModel_type_78 (by decide) ?_
            refine mu_Vi (rest := []) S hC (fun q h => hA q (Nat.le_trans hS.1 h)) (fun q h => h) hS (n_wrong l γ a B Z κ b mn ν τ σr90 Fr90 nur90 hT x1 11 hF) meModel_wrong qw_a6e9824456 ⟨Nat.le_of_ble_eq_true rfl, Nat.le_of_ble_eq_true rfl⟩ (md_rv hC hM) hM rfl hl.1 rfl (Nat.le_of_ble_eq_true rfl) dModel_type_80 ⟨Nat.le_refl _, Nat.le_refl _⟩ (fun r456 H locs hPO hS _ _ => ?_)
            obtain ⟨σr456, eOr456, hM, hF, h0r456⟩ := hPO
            have er456 : r456 = (Q_wrong κ τ σr90 Fr90 nur90 x1 11).1 := by rw [eOr456.eq]
            have eσr456 : σr456 = (Q_wrong κ τ σr90 Fr90 nur90 x1 11).2.1 := by rw [eOr456.eq]
            clear eOr456
            exact hE _ _ _ _ _ hS ⟨κ, _, _, _, τ, σr456, Fr90, nur90, (by subst eσr456 er456 ev445 ev92 enur90 eFr90 eσr90 er90 ev89 ev88 ev87 ev85 eσ84 er1; exact hO.tr ((if_pos c86).trans ((if_pos c91).trans ((if_pos c93).trans (if_neg c446))))), hT, hZ, hF, hG, hM⟩ dModel_type_83
      · refine lv_iload_n hx hb dModel_type_49 rfl (lv_at hl 0 rfl) ?_
        refine lv_ineg hx hb dModel_type_50 ?_
        refine lv_topi (fun v457 ev457 => ?_)
        exact hE _ _ _ _ _ hS ⟨κ, _, _, _, τ, σr90, Fr90, nur90, (by subst ev457 enur90 eFr90 eσr90 er90 ev89 ev88 ev87 ev85 eσ84 er1; exact hO.tr ((if_pos c86).trans (if_neg c91))), hT, hZ, hF, hG, hM⟩ dModel_type_51
    · refine lv_iconst (v := 0) hx hb dModel_type_24 (by decide) ?_
      exact hE _ _ _ _ _ hS ⟨κ, _, _, _, τ, σ84, F, nu, (by subst ev85 eσ84 er1; exact hO.tr (if_neg c86)), hT, hZ, hF, hG, hM⟩ dModel_type_25
  refine lv_if_eq (tgt := 13) hx hb dModel_type_6 (by decide) (fun c458 => ?_) (fun c458 => ?_)
  · refine lv_iconst (v := 0) hx hb dModel_type_13 (by decide) ?_
    exact J14 ls 0 (by first | exact Or.inl (by decide) | exact Or.inr ⟨rfl, hr1 (by assumption)⟩) (by subst er1; exact hO.tr (if_pos c458)) (lv_sub hl [0, 1] rfl)
  · refine lv_iconst (v := 1) hx hb dModel_type_9 (by decide) ?_
    refine lv_goto (tgt := 14) hx hb dModel_type_10 (by decide) ?_
    exact J14 ls 1 (by first | exact Or.inl (by decide) | exact Or.inr ⟨rfl, hr1 (by assumption)⟩) (by subst er1; exact hO.tr (if_neg c458)) (lv_sub hl [0, 1] rfl)
def Q_subtype_69 (κ : Nat → Nat) (τ : gf) (σ : Nat → Int32) (F : gf) (nu : gg) (x1 : Int32) (x2 : Int32) (t0_25 : Int32) (t0_69 : Int32) : XQ := (if ((upd (upd σ 0 t0_25) 0 t0_69) 0) ≤ 0 then (0, (ku κ 4 (κ 4 + 1)), ((Q_name κ τ (upd (upd (upd σ 0 t0_25) 0 t0_69) 1 (-1)) F nu x1 0 x2 0).2.1), (upd (upd (upd σ 0 t0_25) 0 t0_69) 1 (-1)), F, nu) else (0, κ, τ, (upd (upd σ 0 t0_25) 0 t0_69), F, nu))
def Q_subtype_25 (κ : Nat → Nat) (τ : gf) (σ : Nat → Int32) (F : gf) (nu : gg) (x1 : Int32) (x2 : Int32) (t0_25 : Int32) : XQ := (if ((upd σ 0 t0_25) 0) ≤ 0 then (if (Q_hasHere κ τ (upd σ 0 t0_25) F nu x1) = 0 then (if (nI (κ 4)) = 3000 then (Q_subtype_69 κ τ σ F nu x1 x2 t0_25  3) else (Q_subtype_69 κ τ σ F nu x1 x2 t0_25  0)) else ((Q_wrong κ τ (upd σ 0 t0_25) F nu (-1) 7).1, κ, τ, ((Q_wrong κ τ (upd σ 0 t0_25) F nu (-1) 7).2.1), F, nu)) else (0, κ, τ, (upd σ 0 t0_25), F, nu))
def Q_subtype (κ : Nat → Nat) (τ : gf) (σ : Nat → Int32) (F : gf) (nu : gg) (x1 : Int32) (x2 : Int32) : XQ := (if (Q_noType κ τ σ F nu x2) = 0 then (if (Q_goodName x1) = 0 then (Q_subtype_25 κ τ σ F nu x1 x2  2) else (Q_subtype_25 κ τ σ F nu x1 x2  0)) else (Q_subtype_25 κ τ σ F nu x1 x2  1))
set_option maxHeartbeats 4000000 in
set_option maxRecDepth 100000 in
theorem n_subtype (l : Launch) (γ : gE) (a : Nat) (B : Nat → Nat) (Z : Nat → Prop) (κ b mn : Nat → Nat) (ν : Nat → Int32) (τ : Nat → Nat → Int32) (σ : Nat → Int32) (F : Nat → Nat → Int32) (nu : Nat → Int64) (hT : ST κ b mn ν τ) (x1 : Int32) (x2 : Int32) (hZ : SZ F) (hF : FD σ) (hG : GD F nu) : MU l yModel_subtype bModel_subtype 3 (some .int) 1 24 0 0 [.ref a, .int x1, .int x2] γ Z (MD γ a B Z ν τ σ F nu) (mQi (fun r H => MIF γ a B Z (Q_subtype κ τ σ F nu x1 x2) r H) Z) := by
  refine mu_openI (by decide) (Nat.le_of_ble_eq_true rfl) ?_
  intro p e s m args below meth c ls Q S hnm hC hA hM hE hl
  have hS : va_S Z s.heap s.heap [] := va_S.rf
  obtain ⟨hx, hb, hml, hown, hW⟩ := id S
  obtain ⟨⟨hs0, hs1, hs2, hs3, hs4, hs5, hs6⟩, ⟨hv6, hv8, hv21, hv24, hv30, hv31⟩, hTR, hTY, hOB, hNM⟩ := id hT
  have hl : lv_has ls 3 [(0, .ref a), (1, .int x1), (2, .int x2)] := hl
  obtain ⟨OUT, hQ, hO⟩ : ∃ z, (z = Q_subtype κ τ σ F nu x1 x2) ∧ Oq z (Q_subtype κ τ σ F nu x1 x2) := ⟨_, rfl, rfl⟩
  rw [← hQ] at hE
  clear hQ
  refine lv_aload_n hx hb dModel_subtype_0 rfl (lv_at hl 0 rfl) ?_
  refine lv_aload_n hx hb dModel_subtype_1 rfl (lv_at hl 0 rfl) ?_
  refine lv_iload_n hx hb dModel_subtype_2 rfl (lv_at hl 2 rfl) ?_
  refine pu_Vi (rest := [.ref a]) S hC (n_noType l γ a B Z κ b mn ν τ σ F nu hT x2 ) meModel_noType qw_0ba745738d ⟨Nat.le_of_ble_eq_true rfl, Nat.le_of_ble_eq_true rfl⟩ (md_rv hC hM) hM rfl hl.1 rfl (Nat.le_of_ble_eq_true rfl) dModel_subtype_3 ⟨Nat.zero_le _, Nat.zero_le _⟩ (fun r1 hr1 => ?_)
  obtain ⟨hr1, er1⟩ := hr1
  have J25 : ∀ (ls : Array Slot) (t0_25 : Int32), (0 < t0_25 ∨ (t0_25 = 0 ∧ vp_in x2 (κ 2))) → (Oq OUT (Q_subtype_25 κ τ σ F nu x1 x2   t0_25)) → lv_has ls 3 [(0, .ref a), (1, .int x1), (2, .int x2)] → W p l e (bs_rm 1 0 0 24) s m args below meth c s.heap [] 0 0 Q (F0 m 25 ls [.int t0_25, .ref a]) := by
    intro ls t0_25 ht0_25 hO hl
    refine md_pD S hC hM hS 0 rfl (by decide) rfl qw_53e275eed6 rfl (by decide +kernel) dModel_subtype_25 (fun H locs hM hS => ?_)
    obtain ⟨σ18, eσ18⟩ : ∃ z : Nat → Int32, z = upd σ 0 t0_25 := ⟨_, rfl⟩
    rw [← eσ18] at hM
    have hF : FD σ18 := hF.up eσ18 (by decide) (by decide)
    refine lv_aload_n hx hb dModel_subtype_28 rfl (lv_at hl 0 rfl) ?_
    refine md_gI S hC hM 0 (v := σ18 0) rfl (by decide) rfl qw_53e275eed6 dModel_subtype_29 ?_
    refine lv_topi (fun v19 ev19 => ?_)
    refine lv_if_le (tgt := 37) hx hb dModel_subtype_32 (by decide) (fun c20 => ?_) (fun c20 => ?_)
    · have hx2 : vp_in x2 (κ 2) := cd_0 eσ18 ev19 (by assumption) ht0_25
      refine lv_aload_n hx hb dModel_subtype_37 rfl (lv_at hl 0 rfl) ?_
      refine lv_iload_n hx hb dModel_subtype_38 rfl (lv_at hl 1 rfl) ?_
      refine pu_Vi (rest := []) S hC (n_hasHere l γ a B Z κ b mn ν τ σ18 F nu hT x1 ) meModel_hasHere qw_52fabcdf69 ⟨Nat.le_of_ble_eq_true rfl, Nat.le_of_ble_eq_true rfl⟩ (md_rv hC hM) hM rfl hl.1 rfl (Nat.le_of_ble_eq_true rfl) dModel_subtype_39 ⟨Nat.zero_le _, Nat.zero_le _⟩ (fun r21 hr21 => ?_)
      obtain ⟨hr21, er21⟩ := hr21
      refine lv_if_eq (tgt := 53) hx hb dModel_subtype_42 (by decide) (fun c22 => ?_) (fun c22 => ?_)
      · refine lv_aload_n hx hb dModel_subtype_53 rfl (lv_at hl 0 rfl) ?_
        refine lv_aload_n hx hb dModel_subtype_54 rfl (lv_at hl 0 rfl) ?_
        refine md_gI S hC hM 30 (v := nI (κ 4)) hv30 (by decide) rfl qw_8d5d48b583 dModel_subtype_55 ?_
        refine lv_topi (fun v23 ev23 => ?_)
        refine lv_sipush (v := 3000) hx hb dModel_subtype_58 (by decide) ?_
        have J69 : ∀ (ls : Array Slot) (t0_69 : Int32), (0 < t0_69 ∨ (t0_69 = 0 ∧ κ 4 < 3000)) → (Oq OUT (Q_subtype_69 κ τ σ F nu x1 x2 t0_25   t0_69)) → lv_has ls 3 [(0, .ref a), (1, .int x1), (2, .int x2)] → W p l e (bs_rm 1 0 0 24) s m args below meth c H locs 0 0 Q (F0 m 69 ls [.int t0_69, .ref a]) := by
          intro ls t0_69 ht0_69 hO hl
          refine md_pD S hC hM hS 0 rfl (by decide) rfl qw_53e275eed6 rfl (by decide +kernel) dModel_subtype_69 (fun H locs hM hS => ?_)
          obtain ⟨σ30, eσ30⟩ : ∃ z : Nat → Int32, z = upd σ18 0 t0_69 := ⟨_, rfl⟩
          rw [← eσ30] at hM
          have hF : FD σ30 := hF.up eσ30 (by decide) (by decide)
          refine lv_aload_n hx hb dModel_subtype_72 rfl (lv_at hl 0 rfl) ?_
          refine md_gI S hC hM 0 (v := σ30 0) rfl (by decide) rfl qw_53e275eed6 dModel_subtype_73 ?_
          refine lv_topi (fun v31 ev31 => ?_)
          refine lv_if_le (tgt := 81) hx hb dModel_subtype_76 (by decide) (fun c32 => ?_) (fun c32 => ?_)
          · have hN4 : κ 4 < 3000 := cd_0 eσ30 ev31 (by assumption) ht0_69
            refine lv_aload_n hx hb dModel_subtype_81 rfl (lv_at hl 0 rfl) ?_
            refine lv_iconst (v := (-1)) hx hb dModel_subtype_82 (by decide) ?_
            refine md_pD S hC hM hS 1 rfl (by decide) rfl qw_d4a57461ea rfl (by decide +kernel) dModel_subtype_83 (fun H locs hM hS => ?_)
            obtain ⟨σ33, eσ33⟩ : ∃ z : Nat → Int32, z = upd σ30 1 (-1) := ⟨_, rfl⟩
            rw [← eσ33] at hM
            have hF : FD σ33 := hF.up eσ33 (by decide) (by decide)
            refine lv_aload_n hx hb dModel_subtype_86 rfl (lv_at hl 0 rfl) ?_
            refine lv_iload_n hx hb dModel_subtype_87 rfl (lv_at hl 1 rfl) ?_
            refine lv_iconst (v := 0) hx hb dModel_subtype_88 (by decide) ?_
            refine lv_iload_n hx hb dModel_subtype_89 rfl (lv_at hl 2 rfl) ?_
            refine lv_iconst (v := 0) hx hb dModel_subtype_90 (by decide) ?_
            refine mu_Vv (rest := []) S hC (fun q h => hA q (Nat.le_trans hS.1 h)) (fun q h => h) hS (n_name l γ a B Z κ b mn ν τ σ33 F nu hT x1 0 x2 0 (by omega) ⟨fun h9 => absurd h9 (by decide), fun h9 => absurd h9 (by decide), fun h9 => absurd h9 (by decide)⟩) meModel_name qw_8127fdf1ea ⟨Nat.le_of_ble_eq_true rfl, Nat.le_of_ble_eq_true rfl⟩ (md_rv hC hM) hM rfl hl.1 rfl (Nat.le_of_ble_eq_true rfl) dModel_subtype_91 ⟨Nat.le_refl _, Nat.le_refl _⟩ (fun H locs hPO hS _ _ => ?_)
            obtain ⟨ν_r34, τ_r34, eOr34, hM, hT_r34⟩ := hPO
            have eτ_r34 : τ_r34 = (Q_name κ τ σ33 F nu x1 0 x2 0).2.1 := by rw [eOr34.eq]
            clear eOr34
            obtain ⟨κ_r34, hκ_r34⟩ : ∃ z : Nat → Nat, z = ku κ 4 (κ 4 + 1) := ⟨_, rfl⟩
            rw [← hκ_r34] at hT_r34
            obtain ⟨⟨hs0_r34, hs1_r34, hs2_r34, hs3_r34, hs4_r34, hs5_r34, hs6_r34⟩, ⟨hv6_r34, hv8_r34, hv21_r34, hv24_r34, hv30_r34, hv31_r34⟩, hTR_r34, hTY_r34, hOB_r34, hNM_r34⟩ := id hT_r34
            refine lv_iconst (v := 0) hx hb dModel_subtype_94 (by decide) ?_
            exact hE _ _ _ _ _ hS ⟨κ_r34, _, _, _, τ_r34, σ33, F, nu, (by subst hκ_r34 eτ_r34 eσ33 ev31 eσ30 ev23 er21 ev19 eσ18 er1; exact hO.tr (if_pos c32)), hT_r34, hZ, hF, hG, hM⟩ dModel_subtype_95
          · refine lv_iconst (v := 0) hx hb dModel_subtype_79 (by decide) ?_
            exact hE _ _ _ _ _ hS ⟨κ, _, _, _, τ, σ30, F, nu, (by subst ev31 eσ30 ev23 er21 ev19 eσ18 er1; exact hO.tr (if_neg c32)), hT, hZ, hF, hG, hM⟩ dModel_subtype_80
        refine lv_icmp_ne (tgt := 68) hx hb dModel_subtype_61 (by decide) (fun c35 => ?_) (fun c35 => ?_)
        · refine lv_iconst (v := 0) hx hb dModel_subtype_68 (by decide) ?_
          exact J69 ls 0 (by first | exact Or.inl (by decide) | exact Or.inr ⟨rfl, ne_lt ev23 (by assumption) rfl hs4⟩) (by subst ev23 er21 ev19 eσ18 er1; exact hO.tr ((if_pos c20).trans ((if_pos c22).trans (if_neg c35)))) (lv_sub hl [0, 1, 2] rfl)
        · refine lv_iconst (v := 3) hx hb dModel_subtype_64 (by decide) ?_
          refine lv_goto (tgt := 69) hx hb dModel_subtype_65 (by decide) ?_
          exact J69 ls 3 (by first | exact Or.inl (by decide) | exact Or.inr ⟨rfl, ne_lt ev23 (by assumption) rfl hs4⟩) (by subst ev23 er21 ev19 eσ18 er1; exact hO.tr ((if_pos c20).trans ((if_pos c22).trans (if_pos c35)))) (lv_sub hl [0, 1, 2] rfl)
      · refine lv_aload_n hx hb dModel_subtype_45 rfl (lv_at hl 0 rfl) ?_
        refine lv_iconst (v := (-1)) hx hb dModel_subtype_46 (by decide) ?_
        refine lv_bipush (v := 7) hx hb dModel_subtype_47 (by decide) ?_
        refine mu_Vi (rest := []) S hC (fun q h => hA q (Nat.le_trans hS.1 h)) (fun q h => h) hS (n_wrong l γ a B Z κ b mn ν τ σ18 F nu hT (-1) 7 hF) meModel_wrong qw_a6e9824456 ⟨Nat.le_of_ble_eq_true rfl, Nat.le_of_ble_eq_true rfl⟩ (md_rv hC hM) hM rfl hl.1 rfl (Nat.le_of_ble_eq_true rfl) dModel_subtype_49 ⟨Nat.le_refl _, Nat.le_refl _⟩ (fun r36 H locs hPO hS _ _ => ?_)
        obtain ⟨σr36, eOr36, hM, hF, h0r36⟩ := hPO
        have er36 : r36 = (Q_wrong κ τ σ18 F nu (-1) 7).1 := by rw [eOr36.eq]
        have eσr36 : σr36 = (Q_wrong κ τ σ18 F nu (-1) 7).2.1 := by rw [eOr36.eq]
        clear eOr36
        exact hE _ _ _ _ _ hS ⟨κ, _, _, _, τ, σr36, F, nu, (by subst eσr36 er36 er21 ev19 eσ18 er1; exact hO.tr ((if_pos c20).trans (if_neg c22))), hT, hZ, hF, hG, hM⟩ dModel_subtype_52
    · refine lv_iconst (v := 0) hx hb dModel_subtype_35 (by decide) ?_
      exact hE _ _ _ _ _ hS ⟨κ, _, _, _, τ, σ18, F, nu, (by subst ev19 eσ18 er1; exact hO.tr (if_neg c20)), hT, hZ, hF, hG, hM⟩ dModel_subtype_36
  refine lv_if_eq (tgt := 13) hx hb dModel_subtype_6 (by decide) (fun c37 => ?_) (fun c37 => ?_)
  · refine lv_iload_n hx hb dModel_subtype_13 rfl (lv_at hl 1 rfl) ?_
    refine pu_Si (rest := [.ref a]) S hC (n_goodName l γ _ x1) meModel_goodName qw_07c5ec0f25 ⟨Nat.le_of_ble_eq_true rfl, Nat.le_of_ble_eq_true rfl⟩ hM rfl hl.1 rfl (Nat.le_of_ble_eq_true rfl) dModel_subtype_14 ⟨Nat.zero_le _, Nat.zero_le _⟩ (fun r38 hr38 => ?_)
    obtain ⟨hr38, er38⟩ := hr38
    refine lv_if_ne (tgt := 24) hx hb dModel_subtype_17 (by decide) (fun c39 => ?_) (fun c39 => ?_)
    · refine lv_iconst (v := 0) hx hb dModel_subtype_24 (by decide) ?_
      exact J25 ls 0 (by first | exact Or.inl (by decide) | exact Or.inr ⟨rfl, hr1 (by assumption)⟩) (by subst er38 er1; exact hO.tr ((if_pos c37).trans (if_neg c39))) (lv_sub hl [0, 1, 2] rfl)
    · refine lv_iconst (v := 2) hx hb dModel_subtype_20 (by decide) ?_
      refine lv_goto (tgt := 25) hx hb dModel_subtype_21 (by decide) ?_
      exact J25 ls 2 (by first | exact Or.inl (by decide) | exact Or.inr ⟨rfl, hr1 (by assumption)⟩) (by subst er38 er1; exact hO.tr ((if_pos c37).trans (if_pos c39))) (lv_sub hl [0, 1, 2] rfl)
  · refine lv_iconst (v := 1) hx hb dModel_subtype_9 (by decide) ?_
    refine lv_goto (tgt := 25) hx hb dModel_subtype_10 (by decide) ?_
    exact J25 ls 1 (by first | exact Or.inl (by decide) | exact Or.inr ⟨rfl, hr1 (by assumption)⟩) (by subst er1; exact hO.tr (if_neg c37)) (lv_sub hl [0, 1, 2] rfl)
def Q_enter_15 (κ : Nat → Nat) (τ : gf) (σ : Nat → Int32) (F : gf) (nu : gg) (t0_15 : Int32) : XQ := (if ((upd σ 0 t0_15) 0) = 0 then (if ((upd σ 0 t0_15) 0) ≤ 0 then (((nI (κ 5)) + 1), ku κ 5 (κ 5 + 1), τ, (upd σ 0 t0_15), F, nu) else (0, ku κ 5 (κ 5 + 1), τ, (upd σ 0 t0_15), F, nu)) else (if ((upd σ 0 t0_15) 0) ≤ 0 then ((nI (κ 5)), κ, τ, (upd σ 0 t0_15), F, nu) else (0, κ, τ, (upd σ 0 t0_15), F, nu)))
def Q_enter (κ : Nat → Nat) (τ : gf) (σ : Nat → Int32) (F : gf) (nu : gg) : XQ := (if (nI (κ 5)) = 32 then (Q_enter_15 κ τ σ F nu   1) else (Q_enter_15 κ τ σ F nu   0))
set_option maxHeartbeats 4000000 in
set_option maxRecDepth 100000 in
theorem n_enter (l : Launch) (γ : gE) (a : Nat) (B : Nat → Nat) (Z : Nat → Prop) (κ b mn : Nat → Nat) (ν : Nat → Int32) (τ : Nat → Nat → Int32) (σ : Nat → Int32) (F : Nat → Nat → Int32) (nu : Nat → Int64) (hT : ST κ b mn ν τ)  (hZ : SZ F) (hF : FD σ) (hG : GD F nu) : MU l yModel_enter bModel_enter 1 (some .int) 0 0 0 0 [.ref a] γ Z (MD γ a B Z ν τ σ F nu) (mQi (fun r H => MIF γ a B Z (Q_enter κ τ σ F nu ) r H) Z) := by
  refine mu_openI (by decide) (Nat.le_of_ble_eq_true rfl) ?_
  intro p e s m args below meth c ls Q S hnm hC hA hM hE hl
  have hS : va_S Z s.heap s.heap [] := va_S.rf
  obtain ⟨hx, hb, hml, hown, hW⟩ := id S
  obtain ⟨⟨hs0, hs1, hs2, hs3, hs4, hs5, hs6⟩, ⟨hv6, hv8, hv21, hv24, hv30, hv31⟩, hTR, hTY, hOB, hNM⟩ := id hT
  have hl : lv_has ls 1 [(0, .ref a)] := hl
  obtain ⟨OUT, hQ, hO⟩ : ∃ z, (z = Q_enter κ τ σ F nu ) ∧ Oq z (Q_enter κ τ σ F nu ) := ⟨_, rfl, rfl⟩
  rw [← hQ] at hE
  clear hQ
  refine lv_aload_n hx hb dModel_enter_0 rfl (lv_at hl 0 rfl) ?_
  refine lv_aload_n hx hb dModel_enter_1 rfl (lv_at hl 0 rfl) ?_
  refine md_gI S hC hM 31 (v := nI (κ 5)) hv31 (by decide) rfl qw_e3979b88d4 dModel_enter_2 ?_
  refine lv_topi (fun v1 ev1 => ?_)
  refine lv_bipush (v := 32) hx hb dModel_enter_5 (by decide) ?_
  have J15 : ∀ (ls : Array Slot) (t0_15 : Int32), ((t0_15 = 1 ∧ κ 5 = 32) ∨ (t0_15 = 0 ∧ κ 5 < 32)) → (Oq OUT (Q_enter_15 κ τ σ F nu    t0_15)) → lv_has ls 1 [(0, .ref a)] → W p l e (bs_rm 0 0 0 0) s m args below meth c s.heap [] 0 0 Q (F0 m 15 ls [.int t0_15, .ref a]) := by
    intro ls t0_15 ht0_15 hO hl
    refine md_pD S hC hM hS 0 rfl (by decide) rfl qw_53e275eed6 rfl (by decide +kernel) dModel_enter_15 (fun H locs hM hS => ?_)
    obtain ⟨σ16, eσ16⟩ : ∃ z : Nat → Int32, z = upd σ 0 t0_15 := ⟨_, rfl⟩
    rw [← eσ16] at hM
    have hF : FD σ16 := hF.up eσ16 (by decide) (by decide)
    refine lv_aload_n hx hb dModel_enter_18 rfl (lv_at hl 0 rfl) ?_
    refine md_gI S hC hM 0 (v := σ16 0) rfl (by decide) rfl qw_53e275eed6 dModel_enter_19 ?_
    refine lv_topi (fun v17 ev17 => ?_)
    refine lv_if_ne (tgt := 35) hx hb dModel_enter_22 (by decide) (fun c18 => ?_) (fun c18 => ?_)
    · refine lv_aload_n hx hb dModel_enter_35 rfl (lv_at hl 0 rfl) ?_
      refine md_gI S hC hM 0 (v := σ16 0) rfl (by decide) rfl qw_53e275eed6 dModel_enter_36 ?_
      refine lv_topi (fun v19 ev19 => ?_)
      refine lv_if_le (tgt := 46) hx hb dModel_enter_39 (by decide) (fun c20 => ?_) (fun c20 => ?_)
      · refine lv_aload_n hx hb dModel_enter_46 rfl (lv_at hl 0 rfl) ?_
        refine md_gI S hC hM 31 (v := nI (κ 5)) hv31 (by decide) rfl qw_e3979b88d4 dModel_enter_47 ?_
        refine lv_topi (fun v21 ev21 => ?_)
        exact hE _ _ _ _ _ hS ⟨κ, _, _, _, τ, σ16, F, nu, (by subst ev21 ev19 ev17 eσ16 ev1; exact hO.tr ((if_neg c18).trans (if_pos c20))), hT, hZ, hF, hG, hM⟩ dModel_enter_50
      · refine lv_iconst (v := 0) hx hb dModel_enter_42 (by decide) ?_
        refine lv_goto (tgt := 50) hx hb dModel_enter_43 (by decide) ?_
        exact hE _ _ _ _ _ hS ⟨κ, _, _, _, τ, σ16, F, nu, (by subst ev19 ev17 eσ16 ev1; exact hO.tr ((if_neg c18).trans (if_neg c20))), hT, hZ, hF, hG, hM⟩ dModel_enter_50
    · refine lv_aload_n hx hb dModel_enter_25 rfl (lv_at hl 0 rfl) ?_
      refine lv_dup hx hb dModel_enter_26 rfl ?_
      refine md_gI S hC hM 31 (v := nI (κ 5)) hv31 (by decide) rfl qw_e3979b88d4 dModel_enter_27 ?_
      refine lv_topi (fun v22 ev22 => ?_)
      refine lv_iconst (v := 1) hx hb dModel_enter_30 (by decide) ?_
      refine lv_iadd hx hb dModel_enter_31 ?_
      refine lv_topi (fun v23 ev23 => ?_)
      refine md_pS S hC hM hS 31 rfl (by decide) rfl qw_e3979b88d4 rfl (by decide +kernel) dModel_enter_32 (fun H locs hM hS => ?_)
      obtain ⟨ν25, eν25⟩ : ∃ z : Nat → Int32, z = upd ν 31 v23 := ⟨_, rfl⟩
      rw [← eν25] at hM
      refine lv_aload_n hx hb dModel_enter_35 rfl (lv_at hl 0 rfl) ?_
      refine md_gI S hC hM 0 (v := σ16 0) rfl (by decide) rfl qw_53e275eed6 dModel_enter_36 ?_
      refine lv_topi (fun v26 ev26 => ?_)
      refine lv_if_le (tgt := 46) hx hb dModel_enter_39 (by decide) (fun c27 => ?_) (fun c27 => ?_)
      · refine lv_aload_n hx hb dModel_enter_46 rfl (lv_at hl 0 rfl) ?_
        refine md_gI S hC hM 31 (v := ν25 31) rfl (by decide) rfl qw_e3979b88d4 dModel_enter_47 ?_
        refine lv_topi (fun v28 ev28 => ?_)
        exact hE _ _ _ _ _ hS ⟨(ku κ 5 (κ 5 + 1)), _, _, _, τ, σ16, F, nu, (by subst ev28 ev26 eν25 ev23 ev22 ev17 eσ16 ev1; exact hO.tr ((if_pos c18).trans (if_pos c27))), (st_5 hT (by omega) (by have := ((lv_cd ht0_15 eσ16 ev17).2.2.2 (by assumption)).2; omega) eν25 (inc_n ev22 ev23)), hZ, hF, hG, hM⟩ dModel_enter_50
      · refine lv_iconst (v := 0) hx hb dModel_enter_42 (by decide) ?_
        refine lv_goto (tgt := 50) hx hb dModel_enter_43 (by decide) ?_
        exact hE _ _ _ _ _ hS ⟨(ku κ 5 (κ 5 + 1)), _, _, _, τ, σ16, F, nu, (by subst ev26 eν25 ev23 ev22 ev17 eσ16 ev1; exact hO.tr ((if_pos c18).trans (if_neg c27))), (st_5 hT (by omega) (by have := ((lv_cd ht0_15 eσ16 ev17).2.2.2 (by assumption)).2; omega) eν25 (inc_n ev22 ev23)), hZ, hF, hG, hM⟩ dModel_enter_50
  refine lv_icmp_ne (tgt := 14) hx hb dModel_enter_7 (by decide) (fun c29 => ?_) (fun c29 => ?_)
  · refine lv_iconst (v := 0) hx hb dModel_enter_14 (by decide) ?_
    exact J15 ls 0 (by first | exact Or.inl ⟨rfl, eq_n ev1 (by assumption) rfl (by omega) (by omega)⟩ | exact Or.inr ⟨rfl, ne_lt ev1 (by assumption) rfl hs6⟩) (by subst ev1; exact hO.tr (if_neg c29)) (lv_sub hl [0] rfl)
  · refine lv_iconst (v := 1) hx hb dModel_enter_10 (by decide) ?_
    refine lv_goto (tgt := 15) hx hb dModel_enter_11 (by decide) ?_
    exact J15 ls 1 (by first | exact Or.inl ⟨rfl, eq_n ev1 (by assumption) rfl (by omega) (by omega)⟩ | exact Or.inr ⟨rfl, ne_lt ev1 (by assumption) rfl hs6⟩) (by subst ev1; exact hO.tr (if_pos c29)) (lv_sub hl [0] rfl)
def Q_leave_36 (κ : Nat → Nat) (τ : gf) (σ : Nat → Int32) (F : gf) (nu : gg) (t0_14 : Int32) : Nat → (Nat → Nat) → gf → XQ
  | 0, _, _ => default
  | n + 1, κ_36, τ_36 => (if (nI (κ_36 4)) ≤ 0 then ((nI (κ_36 5)), κ_36, τ_36, (upd σ 0 t0_14), F, nu) else (if (τ_36 29 ((nI (κ_36 4)) - 1).toNatClampNeg) ≤ (nI (κ_36 5)) then ((nI (κ_36 5)), κ_36, τ_36, (upd σ 0 t0_14), F, nu) else (Q_leave_36 κ τ σ F nu  t0_14  n (ku κ_36 4 (κ_36 4 - 1)) τ_36)))
def Q_leave_14 (κ : Nat → Nat) (τ : gf) (σ : Nat → Int32) (F : gf) (nu : gg) (t0_14 : Int32) : XQ := (if ((upd σ 0 t0_14) 0) ≤ 0 then (Q_leave_36 κ τ σ F nu  t0_14  ((ku κ 5 (κ 5 - 1)) 4 + 1) (ku κ 5 (κ 5 - 1)) τ) else (0, κ, τ, (upd σ 0 t0_14), F, nu))
def Q_leave (κ : Nat → Nat) (τ : gf) (σ : Nat → Int32) (F : gf) (nu : gg) : XQ := (if (nI (κ 5)) = 1 then (Q_leave_14 κ τ σ F nu   1) else (Q_leave_14 κ τ σ F nu   0))
set_option maxHeartbeats 4000000 in
set_option maxRecDepth 100000 in
theorem n_leave (l : Launch) (γ : gE) (a : Nat) (B : Nat → Nat) (Z : Nat → Prop) (κ b mn : Nat → Nat) (ν : Nat → Int32) (τ : Nat → Nat → Int32) (σ : Nat → Int32) (F : Nat → Nat → Int32) (nu : Nat → Int64) (hT : ST κ b mn ν τ)  (hZ : SZ F) (hF : FD σ) (hG : GD F nu) : MU l yModel_leave bModel_leave 1 (some .int) 0 0 0 0 [.ref a] γ Z (MD γ a B Z ν τ σ F nu) (mQi (fun r H => MIF γ a B Z (Q_leave κ τ σ F nu ) r H) Z) := by
  refine mu_openI (by decide) (Nat.le_of_ble_eq_true rfl) ?_
  intro p e s m args below meth c ls Q S hnm hC hA hM hE hl
  have hS : va_S Z s.heap s.heap [] := va_S.rf
  obtain ⟨hx, hb, hml, hown, hW⟩ := id S
  obtain ⟨⟨hs0, hs1, hs2, hs3, hs4, hs5, hs6⟩, ⟨hv6, hv8, hv21, hv24, hv30, hv31⟩, hTR, hTY, hOB, hNM⟩ := id hT
  have hl : lv_has ls 1 [(0, .ref a)] := hl
  obtain ⟨OUT, hQ, hO⟩ : ∃ z, (z = Q_leave κ τ σ F nu ) ∧ Oq z (Q_leave κ τ σ F nu ) := ⟨_, rfl, rfl⟩
  rw [← hQ] at hE
  clear hQ
  refine lv_aload_n hx hb dModel_leave_0 rfl (lv_at hl 0 rfl) ?_
  refine lv_aload_n hx hb dModel_leave_1 rfl (lv_at hl 0 rfl) ?_
  refine md_gI S hC hM 31 (v := nI (κ 5)) hv31 (by decide) rfl qw_e3979b88d4 dModel_leave_2 ?_
  refine lv_topi (fun v1 ev1 => ?_)
  refine lv_iconst (v := 1) hx hb dModel_leave_5 (by decide) ?_
  have J14 : ∀ (ls : Array Slot) (t0_14 : Int32), ((t0_14 = 1 ∧ κ 5 = 1) ∨ (t0_14 = 0 ∧ 1 < κ 5)) → (Oq OUT (Q_leave_14 κ τ σ F nu    t0_14)) → lv_has ls 1 [(0, .ref a)] → W p l e (bs_rm 0 0 0 0) s m args below meth c s.heap [] 0 0 Q (F0 m 14 ls [.int t0_14, .ref a]) := by
    intro ls t0_14 ht0_14 hO hl
    refine md_pD S hC hM hS 0 rfl (by decide) rfl qw_53e275eed6 rfl (by decide +kernel) dModel_leave_14 (fun H locs hM hS => ?_)
    obtain ⟨σ25, eσ25⟩ : ∃ z : Nat → Int32, z = upd σ 0 t0_14 := ⟨_, rfl⟩
    rw [← eσ25] at hM
    have hF : FD σ25 := hF.up eσ25 (by decide) (by decide)
    refine lv_aload_n hx hb dModel_leave_17 rfl (lv_at hl 0 rfl) ?_
    refine md_gI S hC hM 0 (v := σ25 0) rfl (by decide) rfl qw_53e275eed6 dModel_leave_18 ?_
    refine lv_topi (fun v26 ev26 => ?_)
    refine lv_if_le (tgt := 26) hx hb dModel_leave_21 (by decide) (fun c27 => ?_) (fun c27 => ?_)
    · have h26 := (lv_cd ht0_14 eσ25 ev26).1 (by assumption)
      refine lv_aload_n hx hb dModel_leave_26 rfl (lv_at hl 0 rfl) ?_
      refine lv_dup hx hb dModel_leave_27 rfl ?_
      refine md_gI S hC hM 31 (v := nI (κ 5)) hv31 (by decide) rfl qw_e3979b88d4 dModel_leave_28 ?_
      refine lv_topi (fun v28 ev28 => ?_)
      refine lv_iconst (v := 1) hx hb dModel_leave_31 (by decide) ?_
      refine lv_isub hx hb dModel_leave_32 ?_
      refine lv_topi (fun v29 ev29 => ?_)
      have h26b := h26.2
      refine md_pS S hC hM hS 31 rfl (by decide) rfl qw_e3979b88d4 rfl (by decide +kernel) dModel_leave_33 (fun H locs hM hS => ?_)
      obtain ⟨ν31, eν31⟩ : ∃ z : Nat → Int32, z = upd ν 31 v29 := ⟨_, rfl⟩
      rw [← eν31] at hM
      obtain ⟨κ_p32, hκ_p32⟩ : ∃ z : Nat → Nat, z = ku κ 5 (κ 5 - 1) := ⟨_, rfl⟩
      have hT_p32 : ST κ_p32 b mn ν31 τ := (by rw [hκ_p32]; exact st_5 hT (by omega) (by omega) eν31 (dec_n ev28 ev29 (by omega)))
      obtain ⟨⟨hs0_p32, hs1_p32, hs2_p32, hs3_p32, hs4_p32, hs5_p32, hs6_p32⟩, ⟨hv6_p32, hv8_p32, hv21_p32, hv24_p32, hv30_p32, hv31_p32⟩, hTR_p32, hTY_p32, hOB_p32, hNM_p32⟩ := id hT_p32
      have J36 : ∀ (N36 : Nat) (ls : Array Slot) (H : Heap) (locs : List Loc) (κ_36 : Nat → Nat) (b_36 : Nat → Nat) (mn_36 : Nat → Nat) (ν_36 : Nat → Int32) (τ_36 : Nat → Nat → Int32), MD γ a B Z ν_36 τ_36 σ25 F nu H → va_S Z s.heap H locs → ST κ_36 b_36 mn_36 ν_36 τ_36 → (κ_36 5 = κ 5 - 1 ∧ κ_36 0 = κ 0 ∧ κ_36 1 = κ 1) → (Oq OUT (Q_leave_36 κ τ σ F nu  t0_14  (N36 + 1) κ_36 τ_36)) → κ_36 4 = N36 → lv_has ls 1 [(0, .ref a)] → W p l e (bs_rm 0 0 0 0) s m args below meth c H locs 0 0 Q (F0 m 36 ls []) := by
        intro N36
        induction N36 using Nat.strongRecOn with
        | ind N36 ih36 =>
          intro ls H locs κ_36 b_36 mn_36 ν_36 τ_36 hM hS hT_36 hk5 hO hm36 hl
          obtain ⟨⟨hs0_36, hs1_36, hs2_36, hs3_36, hs4_36, hs5_36, hs6_36⟩, ⟨hv6_36, hv8_36, hv21_36, hv24_36, hv30_36, hv31_36⟩, hTR_36, hTY_36, hOB_36, hNM_36⟩ := id hT_36
          refine lv_aload_n hx hb dModel_leave_36 rfl (lv_at hl 0 rfl) ?_
          refine md_gI S hC hM 30 (v := nI (κ_36 4)) hv30_36 (by decide) rfl qw_8d5d48b583 dModel_leave_37 ?_
          refine lv_topi (fun v33 ev33 => ?_)
          refine lv_if_le (tgt := 74) hx hb dModel_leave_40 (by decide) (fun c34 => ?_) (fun c34 => ?_)
          · refine lv_aload_n hx hb dModel_leave_74 rfl (lv_at hl 0 rfl) ?_
            refine md_gI S hC hM 31 (v := nI (κ_36 5)) hv31_36 (by decide) rfl qw_e3979b88d4 dModel_leave_75 ?_
            refine lv_topi (fun v35 ev35 => ?_)
            exact hE _ _ _ _ _ hS ⟨κ_36, _, _, _, τ_36, σ25, F, nu, (by subst ev35 ev33 hκ_p32 eν31 ev29 ev28 ev26 eσ25 ev1; exact hO.tr (if_pos c34)), hT_36, hZ, hF, hG, hM⟩ dModel_leave_78
          · have hpos : 1 ≤ κ_36 4 := n_one2 ev33 (by assumption)
            refine lv_aload_n hx hb dModel_leave_43 rfl (lv_at hl 0 rfl) ?_
            refine md_gA S hC hM 29 (by decide) rfl qw_6551c8877a dModel_leave_44 ?_
            refine lv_aload_n hx hb dModel_leave_47 rfl (lv_at hl 0 rfl) ?_
            refine md_gI S hC hM 30 (v := nI (κ_36 4)) hv30_36 (by decide) rfl qw_8d5d48b583 dModel_leave_48 ?_
            refine lv_topi (fun v36 ev36 => ?_)
            refine lv_iconst (v := 1) hx hb dModel_leave_51 (by decide) ?_
            refine lv_isub hx hb dModel_leave_52 ?_
            refine lv_topi (fun v37 ev37 => ?_)
            have hw1 : v37 = nI (κ_36 4 - 1) := dec_n ev36 ev37 hpos
            refine md_ild S hC hM 29 23 3000 (τ_36 29) rfl rfl (by decide) rfl rfl (vin_of hw1 (by omega) (by omega)) dModel_leave_53 ?_
            refine lv_topi (fun v38 ev38 => ?_)
            refine lv_aload_n hx hb dModel_leave_54 rfl (lv_at hl 0 rfl) ?_
            refine md_gI S hC hM 31 (v := nI (κ_36 5)) hv31_36 (by decide) rfl qw_e3979b88d4 dModel_leave_55 ?_
            refine lv_topi (fun v39 ev39 => ?_)
            refine lv_icmp_le (tgt := 74) hx hb dModel_leave_58 (by decide) (fun c40 => ?_) (fun c40 => ?_)
            · refine lv_aload_n hx hb dModel_leave_74 rfl (lv_at hl 0 rfl) ?_
              refine md_gI S hC hM 31 (v := nI (κ_36 5)) hv31_36 (by decide) rfl qw_e3979b88d4 dModel_leave_75 ?_
              refine lv_topi (fun v41 ev41 => ?_)
              exact hE _ _ _ _ _ hS ⟨κ_36, _, _, _, τ_36, σ25, F, nu, (by subst ev41 ev39 ev38 ev37 ev36 ev33 hκ_p32 eν31 ev29 ev28 ev26 eσ25 ev1; exact hO.tr ((if_neg c34).trans (if_pos c40))), hT_36, hZ, hF, hG, hM⟩ dModel_leave_78
            · refine lv_aload_n hx hb dModel_leave_61 rfl (lv_at hl 0 rfl) ?_
              refine lv_dup hx hb dModel_leave_62 rfl ?_
              refine md_gI S hC hM 30 (v := nI (κ_36 4)) hv30_36 (by decide) rfl qw_8d5d48b583 dModel_leave_63 ?_
              refine lv_topi (fun v42 ev42 => ?_)
              refine lv_iconst (v := 1) hx hb dModel_leave_66 (by decide) ?_
              refine lv_isub hx hb dModel_leave_67 ?_
              refine lv_topi (fun v43 ev43 => ?_)
              refine md_pS S hC hM hS 30 rfl (by decide) rfl qw_8d5d48b583 rfl (by decide +kernel) dModel_leave_68 (fun H locs hM hS => ?_)
              obtain ⟨ν45, eν45⟩ : ∃ z : Nat → Int32, z = upd ν_36 30 v43 := ⟨_, rfl⟩
              rw [← eν45] at hM
              obtain ⟨κ_p46, hκ_p46⟩ : ∃ z : Nat → Nat, z = ku κ_36 4 (κ_36 4 - 1) := ⟨_, rfl⟩
              have hT_p46 : ST κ_p46 b_36 mn_36 ν45 τ_36 := (by rw [hκ_p46]; exact st_4 hT_36 (by omega) eν45 (dec_n ev42 ev43 (by omega)))
              obtain ⟨⟨hs0_p46, hs1_p46, hs2_p46, hs3_p46, hs4_p46, hs5_p46, hs6_p46⟩, ⟨hv6_p46, hv8_p46, hv21_p46, hv24_p46, hv30_p46, hv31_p46⟩, hTR_p46, hTY_p46, hOB_p46, hNM_p46⟩ := id hT_p46
              refine lv_goto (tgt := 36) hx hb dModel_leave_71 (by decide) ?_
              exact ih36 _ (by rw [hκ_p46]; show κ_36 4 - 1 < _; omega) ls _ _ κ_p46 b_36 mn_36 ν45 τ_36 hM hS hT_p46 (by rw [hκ_p46]; exact hk5) (by have hN : N36 = κ_p46 4 + 1 := (by rw [hκ_p46]; show N36 = κ_36 4 - 1 + 1; omega); rw [← hN]; clear hN; subst hκ_p46 eν45 ev43 ev42 ev39 ev38 ev37 ev36 ev33 hκ_p32 eν31 ev29 ev28 ev26 eσ25 ev1; exact hO.tr ((if_neg c34).trans (if_neg c40))) rfl (lv_sub hl [0] rfl)
      exact J36 _ ls _ _ κ_p32 b mn ν31 τ hM hS hT_p32 (by rw [hκ_p32]; exact ⟨rfl, rfl, rfl⟩) (by subst hκ_p32 eν31 ev29 ev28 ev26 eσ25 ev1; exact hO.tr (if_pos c27)) rfl (lv_sub hl [0] rfl)
    · refine lv_iconst (v := 0) hx hb dModel_leave_24 (by decide) ?_
      exact hE _ _ _ _ _ hS ⟨κ, _, _, _, τ, σ25, F, nu, (by subst ev26 eσ25 ev1; exact hO.tr (if_neg c27)), hT, hZ, hF, hG, hM⟩ dModel_leave_25
  refine lv_icmp_ne (tgt := 13) hx hb dModel_leave_6 (by decide) (fun c47 => ?_) (fun c47 => ?_)
  · refine lv_iconst (v := 0) hx hb dModel_leave_13 (by decide) ?_
    exact J14 ls 0 (by first | exact Or.inl ⟨rfl, eq_n ev1 (by assumption) rfl (by omega) (by omega)⟩ | exact Or.inr ⟨rfl, gt1 ev1 (by assumption) hs5⟩) (by subst ev1; exact hO.tr (if_neg c47)) (lv_sub hl [0] rfl)
  · refine lv_iconst (v := 1) hx hb dModel_leave_9 (by decide) ?_
    refine lv_goto (tgt := 14) hx hb dModel_leave_10 (by decide) ?_
    exact J14 ls 1 (by first | exact Or.inl ⟨rfl, eq_n ev1 (by assumption) rfl (by omega) (by omega)⟩ | exact Or.inr ⟨rfl, gt1 ev1 (by assumption) hs5⟩) (by subst ev1; exact hO.tr (if_pos c47)) (lv_sub hl [0] rfl)
