/-! THE STATE: per field a function of the address (Burstall), tags for liveness; made by mkstate.py -/
abbrev ST : Type := (Nat → Option Nat) × (Nat → ClassId) × (Nat → Nat) × (Nat → Nat → Int32) × (Nat → Nat → Int64) × (Nat → Nat → Option Nat) × (Nat → Nat → Int32) × (Nat → Nat → Int64) × (Nat → Nat → Option Nat)
def st_tg (σ : ST) : Nat → Option Nat := σ.1
def st_cl (σ : ST) : Nat → ClassId := σ.2.1
def st_ln (σ : ST) : Nat → Nat := σ.2.2.1
def st_I (σ : ST) : Nat → Nat → Int32 := σ.2.2.2.1
def st_J (σ : ST) : Nat → Nat → Int64 := σ.2.2.2.2.1
def st_R (σ : ST) : Nat → Nat → Option Nat := σ.2.2.2.2.2.1
def st_eI (σ : ST) : Nat → Nat → Int32 := σ.2.2.2.2.2.2.1
def st_eJ (σ : ST) : Nat → Nat → Int64 := σ.2.2.2.2.2.2.2.1
def st_eR (σ : ST) : Nat → Nat → Option Nat := σ.2.2.2.2.2.2.2.2
def st_sI (σ : ST) (f a : Nat) (v : Int32) : ST := (st_tg σ, st_cl σ, st_ln σ, fun g b => if g = f ∧ b = a then v else st_I σ g b, st_J σ, st_R σ, st_eI σ, st_eJ σ, st_eR σ)
def st_uI (σ : ST) (a i : Nat) (v : Int32) : ST := (st_tg σ, st_cl σ, st_ln σ, st_I σ, st_J σ, st_R σ, fun b j => if b = a ∧ j = i then v else st_eI σ b j, st_eJ σ, st_eR σ)
def st_sJ (σ : ST) (f a : Nat) (v : Int64) : ST := (st_tg σ, st_cl σ, st_ln σ, st_I σ, fun g b => if g = f ∧ b = a then v else st_J σ g b, st_R σ, st_eI σ, st_eJ σ, st_eR σ)
def st_uJ (σ : ST) (a i : Nat) (v : Int64) : ST := (st_tg σ, st_cl σ, st_ln σ, st_I σ, st_J σ, st_R σ, st_eI σ, fun b j => if b = a ∧ j = i then v else st_eJ σ b j, st_eR σ)
def st_sR (σ : ST) (f a : Nat) (v : Option Nat) : ST := (st_tg σ, st_cl σ, st_ln σ, st_I σ, st_J σ, fun g b => if g = f ∧ b = a then v else st_R σ g b, st_eI σ, st_eJ σ, st_eR σ)
def st_uR (σ : ST) (a i : Nat) (v : Option Nat) : ST := (st_tg σ, st_cl σ, st_ln σ, st_I σ, st_J σ, st_R σ, st_eI σ, st_eJ σ, fun b j => if b = a ∧ j = i then v else st_eR σ b j)
def st_new (σ : ST) (q k : Nat) : ST := (fun b => if b = q then some k else st_tg σ b, st_cl σ, st_ln σ, fun g b => if b = q then 0 else st_I σ g b, fun g b => if b = q then 0 else st_J σ g b, fun g b => if b = q then none else st_R σ g b, st_eI σ, st_eJ σ, st_eR σ)
def st_arr (σ : ST) (q k : Nat) (cA : ClassId) (n : Nat) : ST := (fun b => if b = q then some k else st_tg σ b, fun b => if b = q then cA else st_cl σ b, fun b => if b = q then n else st_ln σ b, st_I σ, st_J σ, st_R σ, fun b j => if b = q then 0 else st_eI σ b j, fun b j => if b = q then 0 else st_eJ σ b j, fun b j => if b = q then none else st_eR σ b j)
theorem g_tg_sI (σ : ST) (f a : Nat) (v : Int32) : st_tg (st_sI σ f a v) = st_tg σ := rfl
theorem g_cl_sI (σ : ST) (f a : Nat) (v : Int32) : st_cl (st_sI σ f a v) = st_cl σ := rfl
theorem g_ln_sI (σ : ST) (f a : Nat) (v : Int32) : st_ln (st_sI σ f a v) = st_ln σ := rfl
theorem g_I_sI (σ : ST) (f a : Nat) (v : Int32) (g b : Nat) : st_I (st_sI σ f a v) g b = if g = f ∧ b = a then v else st_I σ g b := rfl
theorem g_J_sI (σ : ST) (f a : Nat) (v : Int32) : st_J (st_sI σ f a v) = st_J σ := rfl
theorem g_R_sI (σ : ST) (f a : Nat) (v : Int32) : st_R (st_sI σ f a v) = st_R σ := rfl
theorem g_eI_sI (σ : ST) (f a : Nat) (v : Int32) : st_eI (st_sI σ f a v) = st_eI σ := rfl
theorem g_eJ_sI (σ : ST) (f a : Nat) (v : Int32) : st_eJ (st_sI σ f a v) = st_eJ σ := rfl
theorem g_eR_sI (σ : ST) (f a : Nat) (v : Int32) : st_eR (st_sI σ f a v) = st_eR σ := rfl
theorem g_tg_uI (σ : ST) (a i : Nat) (v : Int32) : st_tg (st_uI σ a i v) = st_tg σ := rfl
theorem g_cl_uI (σ : ST) (a i : Nat) (v : Int32) : st_cl (st_uI σ a i v) = st_cl σ := rfl
theorem g_ln_uI (σ : ST) (a i : Nat) (v : Int32) : st_ln (st_uI σ a i v) = st_ln σ := rfl
theorem g_I_uI (σ : ST) (a i : Nat) (v : Int32) : st_I (st_uI σ a i v) = st_I σ := rfl
theorem g_J_uI (σ : ST) (a i : Nat) (v : Int32) : st_J (st_uI σ a i v) = st_J σ := rfl
theorem g_R_uI (σ : ST) (a i : Nat) (v : Int32) : st_R (st_uI σ a i v) = st_R σ := rfl
theorem g_eI_uI (σ : ST) (a i : Nat) (v : Int32) (b j : Nat) : st_eI (st_uI σ a i v) b j = if b = a ∧ j = i then v else st_eI σ b j := rfl
theorem g_eJ_uI (σ : ST) (a i : Nat) (v : Int32) : st_eJ (st_uI σ a i v) = st_eJ σ := rfl
theorem g_eR_uI (σ : ST) (a i : Nat) (v : Int32) : st_eR (st_uI σ a i v) = st_eR σ := rfl
theorem g_tg_sJ (σ : ST) (f a : Nat) (v : Int64) : st_tg (st_sJ σ f a v) = st_tg σ := rfl
theorem g_cl_sJ (σ : ST) (f a : Nat) (v : Int64) : st_cl (st_sJ σ f a v) = st_cl σ := rfl
theorem g_ln_sJ (σ : ST) (f a : Nat) (v : Int64) : st_ln (st_sJ σ f a v) = st_ln σ := rfl
theorem g_I_sJ (σ : ST) (f a : Nat) (v : Int64) : st_I (st_sJ σ f a v) = st_I σ := rfl
theorem g_J_sJ (σ : ST) (f a : Nat) (v : Int64) (g b : Nat) : st_J (st_sJ σ f a v) g b = if g = f ∧ b = a then v else st_J σ g b := rfl
theorem g_R_sJ (σ : ST) (f a : Nat) (v : Int64) : st_R (st_sJ σ f a v) = st_R σ := rfl
theorem g_eI_sJ (σ : ST) (f a : Nat) (v : Int64) : st_eI (st_sJ σ f a v) = st_eI σ := rfl
theorem g_eJ_sJ (σ : ST) (f a : Nat) (v : Int64) : st_eJ (st_sJ σ f a v) = st_eJ σ := rfl
theorem g_eR_sJ (σ : ST) (f a : Nat) (v : Int64) : st_eR (st_sJ σ f a v) = st_eR σ := rfl
theorem g_tg_uJ (σ : ST) (a i : Nat) (v : Int64) : st_tg (st_uJ σ a i v) = st_tg σ := rfl
theorem g_cl_uJ (σ : ST) (a i : Nat) (v : Int64) : st_cl (st_uJ σ a i v) = st_cl σ := rfl
theorem g_ln_uJ (σ : ST) (a i : Nat) (v : Int64) : st_ln (st_uJ σ a i v) = st_ln σ := rfl
theorem g_I_uJ (σ : ST) (a i : Nat) (v : Int64) : st_I (st_uJ σ a i v) = st_I σ := rfl
theorem g_J_uJ (σ : ST) (a i : Nat) (v : Int64) : st_J (st_uJ σ a i v) = st_J σ := rfl
theorem g_R_uJ (σ : ST) (a i : Nat) (v : Int64) : st_R (st_uJ σ a i v) = st_R σ := rfl
theorem g_eI_uJ (σ : ST) (a i : Nat) (v : Int64) : st_eI (st_uJ σ a i v) = st_eI σ := rfl
theorem g_eJ_uJ (σ : ST) (a i : Nat) (v : Int64) (b j : Nat) : st_eJ (st_uJ σ a i v) b j = if b = a ∧ j = i then v else st_eJ σ b j := rfl
theorem g_eR_uJ (σ : ST) (a i : Nat) (v : Int64) : st_eR (st_uJ σ a i v) = st_eR σ := rfl
theorem g_tg_sR (σ : ST) (f a : Nat) (v : Option Nat) : st_tg (st_sR σ f a v) = st_tg σ := rfl
theorem g_cl_sR (σ : ST) (f a : Nat) (v : Option Nat) : st_cl (st_sR σ f a v) = st_cl σ := rfl
theorem g_ln_sR (σ : ST) (f a : Nat) (v : Option Nat) : st_ln (st_sR σ f a v) = st_ln σ := rfl
theorem g_I_sR (σ : ST) (f a : Nat) (v : Option Nat) : st_I (st_sR σ f a v) = st_I σ := rfl
theorem g_J_sR (σ : ST) (f a : Nat) (v : Option Nat) : st_J (st_sR σ f a v) = st_J σ := rfl
theorem g_R_sR (σ : ST) (f a : Nat) (v : Option Nat) (g b : Nat) : st_R (st_sR σ f a v) g b = if g = f ∧ b = a then v else st_R σ g b := rfl
theorem g_eI_sR (σ : ST) (f a : Nat) (v : Option Nat) : st_eI (st_sR σ f a v) = st_eI σ := rfl
theorem g_eJ_sR (σ : ST) (f a : Nat) (v : Option Nat) : st_eJ (st_sR σ f a v) = st_eJ σ := rfl
theorem g_eR_sR (σ : ST) (f a : Nat) (v : Option Nat) : st_eR (st_sR σ f a v) = st_eR σ := rfl
theorem g_tg_uR (σ : ST) (a i : Nat) (v : Option Nat) : st_tg (st_uR σ a i v) = st_tg σ := rfl
theorem g_cl_uR (σ : ST) (a i : Nat) (v : Option Nat) : st_cl (st_uR σ a i v) = st_cl σ := rfl
theorem g_ln_uR (σ : ST) (a i : Nat) (v : Option Nat) : st_ln (st_uR σ a i v) = st_ln σ := rfl
theorem g_I_uR (σ : ST) (a i : Nat) (v : Option Nat) : st_I (st_uR σ a i v) = st_I σ := rfl
theorem g_J_uR (σ : ST) (a i : Nat) (v : Option Nat) : st_J (st_uR σ a i v) = st_J σ := rfl
theorem g_R_uR (σ : ST) (a i : Nat) (v : Option Nat) : st_R (st_uR σ a i v) = st_R σ := rfl
theorem g_eI_uR (σ : ST) (a i : Nat) (v : Option Nat) : st_eI (st_uR σ a i v) = st_eI σ := rfl
theorem g_eJ_uR (σ : ST) (a i : Nat) (v : Option Nat) : st_eJ (st_uR σ a i v) = st_eJ σ := rfl
theorem g_eR_uR (σ : ST) (a i : Nat) (v : Option Nat) (b j : Nat) : st_eR (st_uR σ a i v) b j = if b = a ∧ j = i then v else st_eR σ b j := rfl
theorem g_tg_new (σ : ST) (q k : Nat) (b : Nat) : st_tg (st_new σ q k) b = if b = q then some k else st_tg σ b := rfl
theorem g_cl_new (σ : ST) (q k : Nat) : st_cl (st_new σ q k) = st_cl σ := rfl
theorem g_ln_new (σ : ST) (q k : Nat) : st_ln (st_new σ q k) = st_ln σ := rfl
theorem g_I_new (σ : ST) (q k : Nat) (g b : Nat) : st_I (st_new σ q k) g b = if b = q then 0 else st_I σ g b := rfl
theorem g_J_new (σ : ST) (q k : Nat) (g b : Nat) : st_J (st_new σ q k) g b = if b = q then 0 else st_J σ g b := rfl
theorem g_R_new (σ : ST) (q k : Nat) (g b : Nat) : st_R (st_new σ q k) g b = if b = q then none else st_R σ g b := rfl
theorem g_eI_new (σ : ST) (q k : Nat) : st_eI (st_new σ q k) = st_eI σ := rfl
theorem g_eJ_new (σ : ST) (q k : Nat) : st_eJ (st_new σ q k) = st_eJ σ := rfl
theorem g_eR_new (σ : ST) (q k : Nat) : st_eR (st_new σ q k) = st_eR σ := rfl
theorem g_tg_arr (σ : ST) (q k : Nat) (cA : ClassId) (n : Nat) (b : Nat) : st_tg (st_arr σ q k cA n) b = if b = q then some k else st_tg σ b := rfl
theorem g_cl_arr (σ : ST) (q k : Nat) (cA : ClassId) (n : Nat) (b : Nat) : st_cl (st_arr σ q k cA n) b = if b = q then cA else st_cl σ b := rfl
theorem g_ln_arr (σ : ST) (q k : Nat) (cA : ClassId) (n : Nat) (b : Nat) : st_ln (st_arr σ q k cA n) b = if b = q then n else st_ln σ b := rfl
theorem g_I_arr (σ : ST) (q k : Nat) (cA : ClassId) (n : Nat) : st_I (st_arr σ q k cA n) = st_I σ := rfl
theorem g_J_arr (σ : ST) (q k : Nat) (cA : ClassId) (n : Nat) : st_J (st_arr σ q k cA n) = st_J σ := rfl
theorem g_R_arr (σ : ST) (q k : Nat) (cA : ClassId) (n : Nat) : st_R (st_arr σ q k cA n) = st_R σ := rfl
theorem g_eI_arr (σ : ST) (q k : Nat) (cA : ClassId) (n : Nat) (b j : Nat) : st_eI (st_arr σ q k cA n) b j = if b = q then 0 else st_eI σ b j := rfl
theorem g_eJ_arr (σ : ST) (q k : Nat) (cA : ClassId) (n : Nat) (b j : Nat) : st_eJ (st_arr σ q k cA n) b j = if b = q then 0 else st_eJ σ b j := rfl
theorem g_eR_arr (σ : ST) (q k : Nat) (cA : ClassId) (n : Nat) (b j : Nat) : st_eR (st_arr σ q k cA n) b j = if b = q then none else st_eR σ b j := rfl
abbrev fl_0 (σ : ST) (a : Nat) : List Value := [va_rf (st_R σ 0 a), va_rf (st_R σ 1 a), va_rf (st_R σ 2 a), .int (st_I σ 3 a), va_rf (st_R σ 4 a), .int (st_I σ 5 a), .int (st_I σ 6 a), va_rf (st_R σ 7 a), .int (st_I σ 8 a), va_rf (st_R σ 9 a)]
abbrev fl_1 (σ : ST) (a : Nat) : List Value := [.int (st_I σ 40 a), va_rf (st_R σ 41 a), va_rf (st_R σ 42 a), va_rf (st_R σ 43 a), va_rf (st_R σ 44 a), va_rf (st_R σ 45 a), va_rf (st_R σ 46 a), va_rf (st_R σ 47 a), va_rf (st_R σ 48 a), va_rf (st_R σ 49 a), va_rf (st_R σ 50 a), va_rf (st_R σ 51 a), va_rf (st_R σ 52 a), va_rf (st_R σ 53 a), va_rf (st_R σ 54 a), va_rf (st_R σ 55 a), va_rf (st_R σ 56 a), va_rf (st_R σ 57 a), va_rf (st_R σ 58 a), va_rf (st_R σ 59 a), .int (st_I σ 60 a), .int (st_I σ 61 a), va_rf (st_R σ 62 a), va_rf (st_R σ 63 a), va_rf (st_R σ 64 a), va_rf (st_R σ 65 a), va_rf (st_R σ 66 a), .int (st_I σ 67 a), va_rf (st_R σ 68 a), va_rf (st_R σ 69 a), va_rf (st_R σ 70 a), va_rf (st_R σ 71 a)]
abbrev fl_2 (σ : ST) (a : Nat) : List Value := [va_rf (st_R σ 80 a), .long (st_J σ 81 a), .int (st_I σ 82 a)]
abbrev fl_3 (σ : ST) (a : Nat) : List Value := [.long (st_J σ 120 a)]
abbrev fl_4 (σ : ST) (a : Nat) : List Value := [.int (st_I σ 160 a), .long (st_J σ 161 a), .long (st_J σ 162 a), .int (st_I σ 163 a), .int (st_I σ 164 a), .int (st_I σ 165 a), .long (st_J σ 166 a), .long (st_J σ 167 a), va_rf (st_R σ 168 a)]
abbrev fl_5 (σ : ST) (a : Nat) : List Value := [.int (st_I σ 200 a), va_rf (st_R σ 201 a), .long (st_J σ 202 a), .long (st_J σ 203 a), va_rf (st_R σ 204 a), .int (st_I σ 205 a), .int (st_I σ 206 a), .long (st_J σ 207 a), va_rf (st_R σ 208 a), va_rf (st_R σ 209 a), va_rf (st_R σ 210 a)]
abbrev fl_6 (σ : ST) (a : Nat) : List Value := [.int (st_I σ 240 a), .long (st_J σ 241 a), .int (st_I σ 242 a), .long (st_J σ 243 a), .int (st_I σ 244 a)]
def st_ce (σ : ST) (a k : Nat) : va_E :=
  if k = 0 then .inr (0, fl_0 σ a) else
  if k = 1 then .inr (1, fl_1 σ a) else
  if k = 2 then .inr (2, fl_2 σ a) else
  if k = 3 then .inr (3, fl_3 σ a) else
  if k = 4 then .inr (4, fl_4 σ a) else
  if k = 5 then .inr (5, fl_5 σ a) else
  if k = 6 then .inr (6, fl_6 σ a) else
  if k = 301 then .inl (st_cl σ a, st_ln σ a, .inl (st_eI σ a)) else
  if k = 302 then .inl (st_cl σ a, st_ln σ a, .inr (.inl (st_eJ σ a))) else
  if k = 303 then .inl (st_cl σ a, st_ln σ a, .inl (st_eI σ a)) else
  if k = 312 then .inl (st_cl σ a, st_ln σ a, .inr (.inr (.inr (.inr (st_eR σ a))))) else
  if k = 313 then .inl (st_cl σ a, st_ln σ a, .inr (.inr (.inr (.inr (st_eR σ a))))) else
  if k = 314 then .inl (st_cl σ a, st_ln σ a, .inr (.inr (.inr (.inr (st_eR σ a))))) else
  if k = 315 then .inl (st_cl σ a, st_ln σ a, .inr (.inr (.inr (.inr (st_eR σ a))))) else
  if k = 316 then .inl (st_cl σ a, st_ln σ a, .inr (.inr (.inr (.inr (st_eR σ a))))) else
  .inr (9999, [])
def st_cell (σ : ST) (a : Nat) : Option va_E := (st_tg σ a).map (st_ce σ a)
def st_aty (k : Nat) : Option FieldType :=
  if k = 301 then some (.int) else
  if k = 302 then some (.long) else
  if k = 303 then some (.boolean) else
  if k = 312 then some (.object R_Collected) else
  if k = 313 then some (.object R_Currency) else
  if k = 314 then some (.object R_Office) else
  if k = 315 then some (.object R_Order) else
  if k = 316 then some (.object R_Try) else
  none
theorem cell_0 {σ : ST} {a : Nat} (h : st_tg σ a = some 0) : st_cell σ a = some (.inr (0, fl_0 σ a)) := by unfold st_cell; rw [h]; rfl
theorem cell_1 {σ : ST} {a : Nat} (h : st_tg σ a = some 1) : st_cell σ a = some (.inr (1, fl_1 σ a)) := by unfold st_cell; rw [h]; rfl
theorem cell_2 {σ : ST} {a : Nat} (h : st_tg σ a = some 2) : st_cell σ a = some (.inr (2, fl_2 σ a)) := by unfold st_cell; rw [h]; rfl
theorem cell_3 {σ : ST} {a : Nat} (h : st_tg σ a = some 3) : st_cell σ a = some (.inr (3, fl_3 σ a)) := by unfold st_cell; rw [h]; rfl
theorem cell_4 {σ : ST} {a : Nat} (h : st_tg σ a = some 4) : st_cell σ a = some (.inr (4, fl_4 σ a)) := by unfold st_cell; rw [h]; rfl
theorem cell_5 {σ : ST} {a : Nat} (h : st_tg σ a = some 5) : st_cell σ a = some (.inr (5, fl_5 σ a)) := by unfold st_cell; rw [h]; rfl
theorem cell_6 {σ : ST} {a : Nat} (h : st_tg σ a = some 6) : st_cell σ a = some (.inr (6, fl_6 σ a)) := by unfold st_cell; rw [h]; rfl
theorem cell_301 {σ : ST} {a : Nat} (h : st_tg σ a = some 301) : st_cell σ a = some (.inl (st_cl σ a, st_ln σ a, .inl (st_eI σ a))) := by unfold st_cell; rw [h]; rfl
theorem cell_302 {σ : ST} {a : Nat} (h : st_tg σ a = some 302) : st_cell σ a = some (.inl (st_cl σ a, st_ln σ a, .inr (.inl (st_eJ σ a)))) := by unfold st_cell; rw [h]; rfl
theorem cell_303 {σ : ST} {a : Nat} (h : st_tg σ a = some 303) : st_cell σ a = some (.inl (st_cl σ a, st_ln σ a, .inl (st_eI σ a))) := by unfold st_cell; rw [h]; rfl
theorem cell_312 {σ : ST} {a : Nat} (h : st_tg σ a = some 312) : st_cell σ a = some (.inl (st_cl σ a, st_ln σ a, .inr (.inr (.inr (.inr (st_eR σ a)))))) := by unfold st_cell; rw [h]; rfl
theorem cell_313 {σ : ST} {a : Nat} (h : st_tg σ a = some 313) : st_cell σ a = some (.inl (st_cl σ a, st_ln σ a, .inr (.inr (.inr (.inr (st_eR σ a)))))) := by unfold st_cell; rw [h]; rfl
theorem cell_314 {σ : ST} {a : Nat} (h : st_tg σ a = some 314) : st_cell σ a = some (.inl (st_cl σ a, st_ln σ a, .inr (.inr (.inr (.inr (st_eR σ a)))))) := by unfold st_cell; rw [h]; rfl
theorem cell_315 {σ : ST} {a : Nat} (h : st_tg σ a = some 315) : st_cell σ a = some (.inl (st_cl σ a, st_ln σ a, .inr (.inr (.inr (.inr (st_eR σ a)))))) := by unfold st_cell; rw [h]; rfl
theorem cell_316 {σ : ST} {a : Nat} (h : st_tg σ a = some 316) : st_cell σ a = some (.inl (st_cl σ a, st_ln σ a, .inr (.inr (.inr (.inr (st_eR σ a)))))) := by unfold st_cell; rw [h]; rfl
theorem cell_none {σ : ST} {a : Nat} (h : st_tg σ a = none) : st_cell σ a = none := by unfold st_cell; rw [h]; rfl
theorem cell_sI_ne (σ : ST) (f a : Nat) (v : Int32) {b : Nat} (hb : b ≠ a) : st_cell (st_sI σ f a v) b = st_cell σ b := by
  have e : st_tg (st_sI σ f a v) b = st_tg σ b := by simp only [g_tg_sI, g_cl_sI, g_ln_sI, g_I_sI, g_J_sI, g_R_sI, g_eI_sI, g_eJ_sI, g_eR_sI, g_tg_uI, g_cl_uI, g_ln_uI, g_I_uI, g_J_uI, g_R_uI, g_eI_uI, g_eJ_uI, g_eR_uI, g_tg_sJ, g_cl_sJ, g_ln_sJ, g_I_sJ, g_J_sJ, g_R_sJ, g_eI_sJ, g_eJ_sJ, g_eR_sJ, g_tg_uJ, g_cl_uJ, g_ln_uJ, g_I_uJ, g_J_uJ, g_R_uJ, g_eI_uJ, g_eJ_uJ, g_eR_uJ, g_tg_sR, g_cl_sR, g_ln_sR, g_I_sR, g_J_sR, g_R_sR, g_eI_sR, g_eJ_sR, g_eR_sR, g_tg_uR, g_cl_uR, g_ln_uR, g_I_uR, g_J_uR, g_R_uR, g_eI_uR, g_eJ_uR, g_eR_uR, g_tg_new, g_cl_new, g_ln_new, g_I_new, g_J_new, g_R_new, g_eI_new, g_eJ_new, g_eR_new, g_tg_arr, g_cl_arr, g_ln_arr, g_I_arr, g_J_arr, g_R_arr, g_eI_arr, g_eJ_arr, g_eR_arr, hb, false_and, and_false, if_false, ite_false]
  have eI : st_eI (st_sI σ f a v) b = st_eI σ b := by funext j; simp only [g_tg_sI, g_cl_sI, g_ln_sI, g_I_sI, g_J_sI, g_R_sI, g_eI_sI, g_eJ_sI, g_eR_sI, g_tg_uI, g_cl_uI, g_ln_uI, g_I_uI, g_J_uI, g_R_uI, g_eI_uI, g_eJ_uI, g_eR_uI, g_tg_sJ, g_cl_sJ, g_ln_sJ, g_I_sJ, g_J_sJ, g_R_sJ, g_eI_sJ, g_eJ_sJ, g_eR_sJ, g_tg_uJ, g_cl_uJ, g_ln_uJ, g_I_uJ, g_J_uJ, g_R_uJ, g_eI_uJ, g_eJ_uJ, g_eR_uJ, g_tg_sR, g_cl_sR, g_ln_sR, g_I_sR, g_J_sR, g_R_sR, g_eI_sR, g_eJ_sR, g_eR_sR, g_tg_uR, g_cl_uR, g_ln_uR, g_I_uR, g_J_uR, g_R_uR, g_eI_uR, g_eJ_uR, g_eR_uR, g_tg_new, g_cl_new, g_ln_new, g_I_new, g_J_new, g_R_new, g_eI_new, g_eJ_new, g_eR_new, g_tg_arr, g_cl_arr, g_ln_arr, g_I_arr, g_J_arr, g_R_arr, g_eI_arr, g_eJ_arr, g_eR_arr, hb, false_and, and_false, if_false, ite_false]
  have eJ : st_eJ (st_sI σ f a v) b = st_eJ σ b := by funext j; simp only [g_tg_sI, g_cl_sI, g_ln_sI, g_I_sI, g_J_sI, g_R_sI, g_eI_sI, g_eJ_sI, g_eR_sI, g_tg_uI, g_cl_uI, g_ln_uI, g_I_uI, g_J_uI, g_R_uI, g_eI_uI, g_eJ_uI, g_eR_uI, g_tg_sJ, g_cl_sJ, g_ln_sJ, g_I_sJ, g_J_sJ, g_R_sJ, g_eI_sJ, g_eJ_sJ, g_eR_sJ, g_tg_uJ, g_cl_uJ, g_ln_uJ, g_I_uJ, g_J_uJ, g_R_uJ, g_eI_uJ, g_eJ_uJ, g_eR_uJ, g_tg_sR, g_cl_sR, g_ln_sR, g_I_sR, g_J_sR, g_R_sR, g_eI_sR, g_eJ_sR, g_eR_sR, g_tg_uR, g_cl_uR, g_ln_uR, g_I_uR, g_J_uR, g_R_uR, g_eI_uR, g_eJ_uR, g_eR_uR, g_tg_new, g_cl_new, g_ln_new, g_I_new, g_J_new, g_R_new, g_eI_new, g_eJ_new, g_eR_new, g_tg_arr, g_cl_arr, g_ln_arr, g_I_arr, g_J_arr, g_R_arr, g_eI_arr, g_eJ_arr, g_eR_arr, hb, false_and, and_false, if_false, ite_false]
  have eR : st_eR (st_sI σ f a v) b = st_eR σ b := by funext j; simp only [g_tg_sI, g_cl_sI, g_ln_sI, g_I_sI, g_J_sI, g_R_sI, g_eI_sI, g_eJ_sI, g_eR_sI, g_tg_uI, g_cl_uI, g_ln_uI, g_I_uI, g_J_uI, g_R_uI, g_eI_uI, g_eJ_uI, g_eR_uI, g_tg_sJ, g_cl_sJ, g_ln_sJ, g_I_sJ, g_J_sJ, g_R_sJ, g_eI_sJ, g_eJ_sJ, g_eR_sJ, g_tg_uJ, g_cl_uJ, g_ln_uJ, g_I_uJ, g_J_uJ, g_R_uJ, g_eI_uJ, g_eJ_uJ, g_eR_uJ, g_tg_sR, g_cl_sR, g_ln_sR, g_I_sR, g_J_sR, g_R_sR, g_eI_sR, g_eJ_sR, g_eR_sR, g_tg_uR, g_cl_uR, g_ln_uR, g_I_uR, g_J_uR, g_R_uR, g_eI_uR, g_eJ_uR, g_eR_uR, g_tg_new, g_cl_new, g_ln_new, g_I_new, g_J_new, g_R_new, g_eI_new, g_eJ_new, g_eR_new, g_tg_arr, g_cl_arr, g_ln_arr, g_I_arr, g_J_arr, g_R_arr, g_eI_arr, g_eJ_arr, g_eR_arr, hb, false_and, and_false, if_false, ite_false]
  have e2 : ∀ kz, st_ce (st_sI σ f a v) b kz = st_ce σ b kz := fun kz => by simp only [st_ce, fl_0, fl_1, fl_2, fl_3, fl_4, fl_5, fl_6, eI, eJ, eR, g_tg_sI, g_cl_sI, g_ln_sI, g_I_sI, g_J_sI, g_R_sI, g_eI_sI, g_eJ_sI, g_eR_sI, g_tg_uI, g_cl_uI, g_ln_uI, g_I_uI, g_J_uI, g_R_uI, g_eI_uI, g_eJ_uI, g_eR_uI, g_tg_sJ, g_cl_sJ, g_ln_sJ, g_I_sJ, g_J_sJ, g_R_sJ, g_eI_sJ, g_eJ_sJ, g_eR_sJ, g_tg_uJ, g_cl_uJ, g_ln_uJ, g_I_uJ, g_J_uJ, g_R_uJ, g_eI_uJ, g_eJ_uJ, g_eR_uJ, g_tg_sR, g_cl_sR, g_ln_sR, g_I_sR, g_J_sR, g_R_sR, g_eI_sR, g_eJ_sR, g_eR_sR, g_tg_uR, g_cl_uR, g_ln_uR, g_I_uR, g_J_uR, g_R_uR, g_eI_uR, g_eJ_uR, g_eR_uR, g_tg_new, g_cl_new, g_ln_new, g_I_new, g_J_new, g_R_new, g_eI_new, g_eJ_new, g_eR_new, g_tg_arr, g_cl_arr, g_ln_arr, g_I_arr, g_J_arr, g_R_arr, g_eI_arr, g_eJ_arr, g_eR_arr, hb, false_and, and_false, if_false, ite_false]
  unfold st_cell
  rw [e]
  cases st_tg σ b with
  | none => rfl
  | some k => exact congrArg some (e2 k)
theorem cell_uI_ne (σ : ST) (a i : Nat) (v : Int32) {b : Nat} (hb : b ≠ a) : st_cell (st_uI σ a i v) b = st_cell σ b := by
  have e : st_tg (st_uI σ a i v) b = st_tg σ b := by simp only [g_tg_sI, g_cl_sI, g_ln_sI, g_I_sI, g_J_sI, g_R_sI, g_eI_sI, g_eJ_sI, g_eR_sI, g_tg_uI, g_cl_uI, g_ln_uI, g_I_uI, g_J_uI, g_R_uI, g_eI_uI, g_eJ_uI, g_eR_uI, g_tg_sJ, g_cl_sJ, g_ln_sJ, g_I_sJ, g_J_sJ, g_R_sJ, g_eI_sJ, g_eJ_sJ, g_eR_sJ, g_tg_uJ, g_cl_uJ, g_ln_uJ, g_I_uJ, g_J_uJ, g_R_uJ, g_eI_uJ, g_eJ_uJ, g_eR_uJ, g_tg_sR, g_cl_sR, g_ln_sR, g_I_sR, g_J_sR, g_R_sR, g_eI_sR, g_eJ_sR, g_eR_sR, g_tg_uR, g_cl_uR, g_ln_uR, g_I_uR, g_J_uR, g_R_uR, g_eI_uR, g_eJ_uR, g_eR_uR, g_tg_new, g_cl_new, g_ln_new, g_I_new, g_J_new, g_R_new, g_eI_new, g_eJ_new, g_eR_new, g_tg_arr, g_cl_arr, g_ln_arr, g_I_arr, g_J_arr, g_R_arr, g_eI_arr, g_eJ_arr, g_eR_arr, hb, false_and, and_false, if_false, ite_false]
  have eI : st_eI (st_uI σ a i v) b = st_eI σ b := by funext j; simp only [g_tg_sI, g_cl_sI, g_ln_sI, g_I_sI, g_J_sI, g_R_sI, g_eI_sI, g_eJ_sI, g_eR_sI, g_tg_uI, g_cl_uI, g_ln_uI, g_I_uI, g_J_uI, g_R_uI, g_eI_uI, g_eJ_uI, g_eR_uI, g_tg_sJ, g_cl_sJ, g_ln_sJ, g_I_sJ, g_J_sJ, g_R_sJ, g_eI_sJ, g_eJ_sJ, g_eR_sJ, g_tg_uJ, g_cl_uJ, g_ln_uJ, g_I_uJ, g_J_uJ, g_R_uJ, g_eI_uJ, g_eJ_uJ, g_eR_uJ, g_tg_sR, g_cl_sR, g_ln_sR, g_I_sR, g_J_sR, g_R_sR, g_eI_sR, g_eJ_sR, g_eR_sR, g_tg_uR, g_cl_uR, g_ln_uR, g_I_uR, g_J_uR, g_R_uR, g_eI_uR, g_eJ_uR, g_eR_uR, g_tg_new, g_cl_new, g_ln_new, g_I_new, g_J_new, g_R_new, g_eI_new, g_eJ_new, g_eR_new, g_tg_arr, g_cl_arr, g_ln_arr, g_I_arr, g_J_arr, g_R_arr, g_eI_arr, g_eJ_arr, g_eR_arr, hb, false_and, and_false, if_false, ite_false]
  have eJ : st_eJ (st_uI σ a i v) b = st_eJ σ b := by funext j; simp only [g_tg_sI, g_cl_sI, g_ln_sI, g_I_sI, g_J_sI, g_R_sI, g_eI_sI, g_eJ_sI, g_eR_sI, g_tg_uI, g_cl_uI, g_ln_uI, g_I_uI, g_J_uI, g_R_uI, g_eI_uI, g_eJ_uI, g_eR_uI, g_tg_sJ, g_cl_sJ, g_ln_sJ, g_I_sJ, g_J_sJ, g_R_sJ, g_eI_sJ, g_eJ_sJ, g_eR_sJ, g_tg_uJ, g_cl_uJ, g_ln_uJ, g_I_uJ, g_J_uJ, g_R_uJ, g_eI_uJ, g_eJ_uJ, g_eR_uJ, g_tg_sR, g_cl_sR, g_ln_sR, g_I_sR, g_J_sR, g_R_sR, g_eI_sR, g_eJ_sR, g_eR_sR, g_tg_uR, g_cl_uR, g_ln_uR, g_I_uR, g_J_uR, g_R_uR, g_eI_uR, g_eJ_uR, g_eR_uR, g_tg_new, g_cl_new, g_ln_new, g_I_new, g_J_new, g_R_new, g_eI_new, g_eJ_new, g_eR_new, g_tg_arr, g_cl_arr, g_ln_arr, g_I_arr, g_J_arr, g_R_arr, g_eI_arr, g_eJ_arr, g_eR_arr, hb, false_and, and_false, if_false, ite_false]
  have eR : st_eR (st_uI σ a i v) b = st_eR σ b := by funext j; simp only [g_tg_sI, g_cl_sI, g_ln_sI, g_I_sI, g_J_sI, g_R_sI, g_eI_sI, g_eJ_sI, g_eR_sI, g_tg_uI, g_cl_uI, g_ln_uI, g_I_uI, g_J_uI, g_R_uI, g_eI_uI, g_eJ_uI, g_eR_uI, g_tg_sJ, g_cl_sJ, g_ln_sJ, g_I_sJ, g_J_sJ, g_R_sJ, g_eI_sJ, g_eJ_sJ, g_eR_sJ, g_tg_uJ, g_cl_uJ, g_ln_uJ, g_I_uJ, g_J_uJ, g_R_uJ, g_eI_uJ, g_eJ_uJ, g_eR_uJ, g_tg_sR, g_cl_sR, g_ln_sR, g_I_sR, g_J_sR, g_R_sR, g_eI_sR, g_eJ_sR, g_eR_sR, g_tg_uR, g_cl_uR, g_ln_uR, g_I_uR, g_J_uR, g_R_uR, g_eI_uR, g_eJ_uR, g_eR_uR, g_tg_new, g_cl_new, g_ln_new, g_I_new, g_J_new, g_R_new, g_eI_new, g_eJ_new, g_eR_new, g_tg_arr, g_cl_arr, g_ln_arr, g_I_arr, g_J_arr, g_R_arr, g_eI_arr, g_eJ_arr, g_eR_arr, hb, false_and, and_false, if_false, ite_false]
  have e2 : ∀ kz, st_ce (st_uI σ a i v) b kz = st_ce σ b kz := fun kz => by simp only [st_ce, fl_0, fl_1, fl_2, fl_3, fl_4, fl_5, fl_6, eI, eJ, eR, g_tg_sI, g_cl_sI, g_ln_sI, g_I_sI, g_J_sI, g_R_sI, g_eI_sI, g_eJ_sI, g_eR_sI, g_tg_uI, g_cl_uI, g_ln_uI, g_I_uI, g_J_uI, g_R_uI, g_eI_uI, g_eJ_uI, g_eR_uI, g_tg_sJ, g_cl_sJ, g_ln_sJ, g_I_sJ, g_J_sJ, g_R_sJ, g_eI_sJ, g_eJ_sJ, g_eR_sJ, g_tg_uJ, g_cl_uJ, g_ln_uJ, g_I_uJ, g_J_uJ, g_R_uJ, g_eI_uJ, g_eJ_uJ, g_eR_uJ, g_tg_sR, g_cl_sR, g_ln_sR, g_I_sR, g_J_sR, g_R_sR, g_eI_sR, g_eJ_sR, g_eR_sR, g_tg_uR, g_cl_uR, g_ln_uR, g_I_uR, g_J_uR, g_R_uR, g_eI_uR, g_eJ_uR, g_eR_uR, g_tg_new, g_cl_new, g_ln_new, g_I_new, g_J_new, g_R_new, g_eI_new, g_eJ_new, g_eR_new, g_tg_arr, g_cl_arr, g_ln_arr, g_I_arr, g_J_arr, g_R_arr, g_eI_arr, g_eJ_arr, g_eR_arr, hb, false_and, and_false, if_false, ite_false]
  unfold st_cell
  rw [e]
  cases st_tg σ b with
  | none => rfl
  | some k => exact congrArg some (e2 k)
theorem cell_sJ_ne (σ : ST) (f a : Nat) (v : Int64) {b : Nat} (hb : b ≠ a) : st_cell (st_sJ σ f a v) b = st_cell σ b := by
  have e : st_tg (st_sJ σ f a v) b = st_tg σ b := by simp only [g_tg_sI, g_cl_sI, g_ln_sI, g_I_sI, g_J_sI, g_R_sI, g_eI_sI, g_eJ_sI, g_eR_sI, g_tg_uI, g_cl_uI, g_ln_uI, g_I_uI, g_J_uI, g_R_uI, g_eI_uI, g_eJ_uI, g_eR_uI, g_tg_sJ, g_cl_sJ, g_ln_sJ, g_I_sJ, g_J_sJ, g_R_sJ, g_eI_sJ, g_eJ_sJ, g_eR_sJ, g_tg_uJ, g_cl_uJ, g_ln_uJ, g_I_uJ, g_J_uJ, g_R_uJ, g_eI_uJ, g_eJ_uJ, g_eR_uJ, g_tg_sR, g_cl_sR, g_ln_sR, g_I_sR, g_J_sR, g_R_sR, g_eI_sR, g_eJ_sR, g_eR_sR, g_tg_uR, g_cl_uR, g_ln_uR, g_I_uR, g_J_uR, g_R_uR, g_eI_uR, g_eJ_uR, g_eR_uR, g_tg_new, g_cl_new, g_ln_new, g_I_new, g_J_new, g_R_new, g_eI_new, g_eJ_new, g_eR_new, g_tg_arr, g_cl_arr, g_ln_arr, g_I_arr, g_J_arr, g_R_arr, g_eI_arr, g_eJ_arr, g_eR_arr, hb, false_and, and_false, if_false, ite_false]
  have eI : st_eI (st_sJ σ f a v) b = st_eI σ b := by funext j; simp only [g_tg_sI, g_cl_sI, g_ln_sI, g_I_sI, g_J_sI, g_R_sI, g_eI_sI, g_eJ_sI, g_eR_sI, g_tg_uI, g_cl_uI, g_ln_uI, g_I_uI, g_J_uI, g_R_uI, g_eI_uI, g_eJ_uI, g_eR_uI, g_tg_sJ, g_cl_sJ, g_ln_sJ, g_I_sJ, g_J_sJ, g_R_sJ, g_eI_sJ, g_eJ_sJ, g_eR_sJ, g_tg_uJ, g_cl_uJ, g_ln_uJ, g_I_uJ, g_J_uJ, g_R_uJ, g_eI_uJ, g_eJ_uJ, g_eR_uJ, g_tg_sR, g_cl_sR, g_ln_sR, g_I_sR, g_J_sR, g_R_sR, g_eI_sR, g_eJ_sR, g_eR_sR, g_tg_uR, g_cl_uR, g_ln_uR, g_I_uR, g_J_uR, g_R_uR, g_eI_uR, g_eJ_uR, g_eR_uR, g_tg_new, g_cl_new, g_ln_new, g_I_new, g_J_new, g_R_new, g_eI_new, g_eJ_new, g_eR_new, g_tg_arr, g_cl_arr, g_ln_arr, g_I_arr, g_J_arr, g_R_arr, g_eI_arr, g_eJ_arr, g_eR_arr, hb, false_and, and_false, if_false, ite_false]
  have eJ : st_eJ (st_sJ σ f a v) b = st_eJ σ b := by funext j; simp only [g_tg_sI, g_cl_sI, g_ln_sI, g_I_sI, g_J_sI, g_R_sI, g_eI_sI, g_eJ_sI, g_eR_sI, g_tg_uI, g_cl_uI, g_ln_uI, g_I_uI, g_J_uI, g_R_uI, g_eI_uI, g_eJ_uI, g_eR_uI, g_tg_sJ, g_cl_sJ, g_ln_sJ, g_I_sJ, g_J_sJ, g_R_sJ, g_eI_sJ, g_eJ_sJ, g_eR_sJ, g_tg_uJ, g_cl_uJ, g_ln_uJ, g_I_uJ, g_J_uJ, g_R_uJ, g_eI_uJ, g_eJ_uJ, g_eR_uJ, g_tg_sR, g_cl_sR, g_ln_sR, g_I_sR, g_J_sR, g_R_sR, g_eI_sR, g_eJ_sR, g_eR_sR, g_tg_uR, g_cl_uR, g_ln_uR, g_I_uR, g_J_uR, g_R_uR, g_eI_uR, g_eJ_uR, g_eR_uR, g_tg_new, g_cl_new, g_ln_new, g_I_new, g_J_new, g_R_new, g_eI_new, g_eJ_new, g_eR_new, g_tg_arr, g_cl_arr, g_ln_arr, g_I_arr, g_J_arr, g_R_arr, g_eI_arr, g_eJ_arr, g_eR_arr, hb, false_and, and_false, if_false, ite_false]
  have eR : st_eR (st_sJ σ f a v) b = st_eR σ b := by funext j; simp only [g_tg_sI, g_cl_sI, g_ln_sI, g_I_sI, g_J_sI, g_R_sI, g_eI_sI, g_eJ_sI, g_eR_sI, g_tg_uI, g_cl_uI, g_ln_uI, g_I_uI, g_J_uI, g_R_uI, g_eI_uI, g_eJ_uI, g_eR_uI, g_tg_sJ, g_cl_sJ, g_ln_sJ, g_I_sJ, g_J_sJ, g_R_sJ, g_eI_sJ, g_eJ_sJ, g_eR_sJ, g_tg_uJ, g_cl_uJ, g_ln_uJ, g_I_uJ, g_J_uJ, g_R_uJ, g_eI_uJ, g_eJ_uJ, g_eR_uJ, g_tg_sR, g_cl_sR, g_ln_sR, g_I_sR, g_J_sR, g_R_sR, g_eI_sR, g_eJ_sR, g_eR_sR, g_tg_uR, g_cl_uR, g_ln_uR, g_I_uR, g_J_uR, g_R_uR, g_eI_uR, g_eJ_uR, g_eR_uR, g_tg_new, g_cl_new, g_ln_new, g_I_new, g_J_new, g_R_new, g_eI_new, g_eJ_new, g_eR_new, g_tg_arr, g_cl_arr, g_ln_arr, g_I_arr, g_J_arr, g_R_arr, g_eI_arr, g_eJ_arr, g_eR_arr, hb, false_and, and_false, if_false, ite_false]
  have e2 : ∀ kz, st_ce (st_sJ σ f a v) b kz = st_ce σ b kz := fun kz => by simp only [st_ce, fl_0, fl_1, fl_2, fl_3, fl_4, fl_5, fl_6, eI, eJ, eR, g_tg_sI, g_cl_sI, g_ln_sI, g_I_sI, g_J_sI, g_R_sI, g_eI_sI, g_eJ_sI, g_eR_sI, g_tg_uI, g_cl_uI, g_ln_uI, g_I_uI, g_J_uI, g_R_uI, g_eI_uI, g_eJ_uI, g_eR_uI, g_tg_sJ, g_cl_sJ, g_ln_sJ, g_I_sJ, g_J_sJ, g_R_sJ, g_eI_sJ, g_eJ_sJ, g_eR_sJ, g_tg_uJ, g_cl_uJ, g_ln_uJ, g_I_uJ, g_J_uJ, g_R_uJ, g_eI_uJ, g_eJ_uJ, g_eR_uJ, g_tg_sR, g_cl_sR, g_ln_sR, g_I_sR, g_J_sR, g_R_sR, g_eI_sR, g_eJ_sR, g_eR_sR, g_tg_uR, g_cl_uR, g_ln_uR, g_I_uR, g_J_uR, g_R_uR, g_eI_uR, g_eJ_uR, g_eR_uR, g_tg_new, g_cl_new, g_ln_new, g_I_new, g_J_new, g_R_new, g_eI_new, g_eJ_new, g_eR_new, g_tg_arr, g_cl_arr, g_ln_arr, g_I_arr, g_J_arr, g_R_arr, g_eI_arr, g_eJ_arr, g_eR_arr, hb, false_and, and_false, if_false, ite_false]
  unfold st_cell
  rw [e]
  cases st_tg σ b with
  | none => rfl
  | some k => exact congrArg some (e2 k)
theorem cell_uJ_ne (σ : ST) (a i : Nat) (v : Int64) {b : Nat} (hb : b ≠ a) : st_cell (st_uJ σ a i v) b = st_cell σ b := by
  have e : st_tg (st_uJ σ a i v) b = st_tg σ b := by simp only [g_tg_sI, g_cl_sI, g_ln_sI, g_I_sI, g_J_sI, g_R_sI, g_eI_sI, g_eJ_sI, g_eR_sI, g_tg_uI, g_cl_uI, g_ln_uI, g_I_uI, g_J_uI, g_R_uI, g_eI_uI, g_eJ_uI, g_eR_uI, g_tg_sJ, g_cl_sJ, g_ln_sJ, g_I_sJ, g_J_sJ, g_R_sJ, g_eI_sJ, g_eJ_sJ, g_eR_sJ, g_tg_uJ, g_cl_uJ, g_ln_uJ, g_I_uJ, g_J_uJ, g_R_uJ, g_eI_uJ, g_eJ_uJ, g_eR_uJ, g_tg_sR, g_cl_sR, g_ln_sR, g_I_sR, g_J_sR, g_R_sR, g_eI_sR, g_eJ_sR, g_eR_sR, g_tg_uR, g_cl_uR, g_ln_uR, g_I_uR, g_J_uR, g_R_uR, g_eI_uR, g_eJ_uR, g_eR_uR, g_tg_new, g_cl_new, g_ln_new, g_I_new, g_J_new, g_R_new, g_eI_new, g_eJ_new, g_eR_new, g_tg_arr, g_cl_arr, g_ln_arr, g_I_arr, g_J_arr, g_R_arr, g_eI_arr, g_eJ_arr, g_eR_arr, hb, false_and, and_false, if_false, ite_false]
  have eI : st_eI (st_uJ σ a i v) b = st_eI σ b := by funext j; simp only [g_tg_sI, g_cl_sI, g_ln_sI, g_I_sI, g_J_sI, g_R_sI, g_eI_sI, g_eJ_sI, g_eR_sI, g_tg_uI, g_cl_uI, g_ln_uI, g_I_uI, g_J_uI, g_R_uI, g_eI_uI, g_eJ_uI, g_eR_uI, g_tg_sJ, g_cl_sJ, g_ln_sJ, g_I_sJ, g_J_sJ, g_R_sJ, g_eI_sJ, g_eJ_sJ, g_eR_sJ, g_tg_uJ, g_cl_uJ, g_ln_uJ, g_I_uJ, g_J_uJ, g_R_uJ, g_eI_uJ, g_eJ_uJ, g_eR_uJ, g_tg_sR, g_cl_sR, g_ln_sR, g_I_sR, g_J_sR, g_R_sR, g_eI_sR, g_eJ_sR, g_eR_sR, g_tg_uR, g_cl_uR, g_ln_uR, g_I_uR, g_J_uR, g_R_uR, g_eI_uR, g_eJ_uR, g_eR_uR, g_tg_new, g_cl_new, g_ln_new, g_I_new, g_J_new, g_R_new, g_eI_new, g_eJ_new, g_eR_new, g_tg_arr, g_cl_arr, g_ln_arr, g_I_arr, g_J_arr, g_R_arr, g_eI_arr, g_eJ_arr, g_eR_arr, hb, false_and, and_false, if_false, ite_false]
  have eJ : st_eJ (st_uJ σ a i v) b = st_eJ σ b := by funext j; simp only [g_tg_sI, g_cl_sI, g_ln_sI, g_I_sI, g_J_sI, g_R_sI, g_eI_sI, g_eJ_sI, g_eR_sI, g_tg_uI, g_cl_uI, g_ln_uI, g_I_uI, g_J_uI, g_R_uI, g_eI_uI, g_eJ_uI, g_eR_uI, g_tg_sJ, g_cl_sJ, g_ln_sJ, g_I_sJ, g_J_sJ, g_R_sJ, g_eI_sJ, g_eJ_sJ, g_eR_sJ, g_tg_uJ, g_cl_uJ, g_ln_uJ, g_I_uJ, g_J_uJ, g_R_uJ, g_eI_uJ, g_eJ_uJ, g_eR_uJ, g_tg_sR, g_cl_sR, g_ln_sR, g_I_sR, g_J_sR, g_R_sR, g_eI_sR, g_eJ_sR, g_eR_sR, g_tg_uR, g_cl_uR, g_ln_uR, g_I_uR, g_J_uR, g_R_uR, g_eI_uR, g_eJ_uR, g_eR_uR, g_tg_new, g_cl_new, g_ln_new, g_I_new, g_J_new, g_R_new, g_eI_new, g_eJ_new, g_eR_new, g_tg_arr, g_cl_arr, g_ln_arr, g_I_arr, g_J_arr, g_R_arr, g_eI_arr, g_eJ_arr, g_eR_arr, hb, false_and, and_false, if_false, ite_false]
  have eR : st_eR (st_uJ σ a i v) b = st_eR σ b := by funext j; simp only [g_tg_sI, g_cl_sI, g_ln_sI, g_I_sI, g_J_sI, g_R_sI, g_eI_sI, g_eJ_sI, g_eR_sI, g_tg_uI, g_cl_uI, g_ln_uI, g_I_uI, g_J_uI, g_R_uI, g_eI_uI, g_eJ_uI, g_eR_uI, g_tg_sJ, g_cl_sJ, g_ln_sJ, g_I_sJ, g_J_sJ, g_R_sJ, g_eI_sJ, g_eJ_sJ, g_eR_sJ, g_tg_uJ, g_cl_uJ, g_ln_uJ, g_I_uJ, g_J_uJ, g_R_uJ, g_eI_uJ, g_eJ_uJ, g_eR_uJ, g_tg_sR, g_cl_sR, g_ln_sR, g_I_sR, g_J_sR, g_R_sR, g_eI_sR, g_eJ_sR, g_eR_sR, g_tg_uR, g_cl_uR, g_ln_uR, g_I_uR, g_J_uR, g_R_uR, g_eI_uR, g_eJ_uR, g_eR_uR, g_tg_new, g_cl_new, g_ln_new, g_I_new, g_J_new, g_R_new, g_eI_new, g_eJ_new, g_eR_new, g_tg_arr, g_cl_arr, g_ln_arr, g_I_arr, g_J_arr, g_R_arr, g_eI_arr, g_eJ_arr, g_eR_arr, hb, false_and, and_false, if_false, ite_false]
  have e2 : ∀ kz, st_ce (st_uJ σ a i v) b kz = st_ce σ b kz := fun kz => by simp only [st_ce, fl_0, fl_1, fl_2, fl_3, fl_4, fl_5, fl_6, eI, eJ, eR, g_tg_sI, g_cl_sI, g_ln_sI, g_I_sI, g_J_sI, g_R_sI, g_eI_sI, g_eJ_sI, g_eR_sI, g_tg_uI, g_cl_uI, g_ln_uI, g_I_uI, g_J_uI, g_R_uI, g_eI_uI, g_eJ_uI, g_eR_uI, g_tg_sJ, g_cl_sJ, g_ln_sJ, g_I_sJ, g_J_sJ, g_R_sJ, g_eI_sJ, g_eJ_sJ, g_eR_sJ, g_tg_uJ, g_cl_uJ, g_ln_uJ, g_I_uJ, g_J_uJ, g_R_uJ, g_eI_uJ, g_eJ_uJ, g_eR_uJ, g_tg_sR, g_cl_sR, g_ln_sR, g_I_sR, g_J_sR, g_R_sR, g_eI_sR, g_eJ_sR, g_eR_sR, g_tg_uR, g_cl_uR, g_ln_uR, g_I_uR, g_J_uR, g_R_uR, g_eI_uR, g_eJ_uR, g_eR_uR, g_tg_new, g_cl_new, g_ln_new, g_I_new, g_J_new, g_R_new, g_eI_new, g_eJ_new, g_eR_new, g_tg_arr, g_cl_arr, g_ln_arr, g_I_arr, g_J_arr, g_R_arr, g_eI_arr, g_eJ_arr, g_eR_arr, hb, false_and, and_false, if_false, ite_false]
  unfold st_cell
  rw [e]
  cases st_tg σ b with
  | none => rfl
  | some k => exact congrArg some (e2 k)
theorem cell_sR_ne (σ : ST) (f a : Nat) (v : Option Nat) {b : Nat} (hb : b ≠ a) : st_cell (st_sR σ f a v) b = st_cell σ b := by
  have e : st_tg (st_sR σ f a v) b = st_tg σ b := by simp only [g_tg_sI, g_cl_sI, g_ln_sI, g_I_sI, g_J_sI, g_R_sI, g_eI_sI, g_eJ_sI, g_eR_sI, g_tg_uI, g_cl_uI, g_ln_uI, g_I_uI, g_J_uI, g_R_uI, g_eI_uI, g_eJ_uI, g_eR_uI, g_tg_sJ, g_cl_sJ, g_ln_sJ, g_I_sJ, g_J_sJ, g_R_sJ, g_eI_sJ, g_eJ_sJ, g_eR_sJ, g_tg_uJ, g_cl_uJ, g_ln_uJ, g_I_uJ, g_J_uJ, g_R_uJ, g_eI_uJ, g_eJ_uJ, g_eR_uJ, g_tg_sR, g_cl_sR, g_ln_sR, g_I_sR, g_J_sR, g_R_sR, g_eI_sR, g_eJ_sR, g_eR_sR, g_tg_uR, g_cl_uR, g_ln_uR, g_I_uR, g_J_uR, g_R_uR, g_eI_uR, g_eJ_uR, g_eR_uR, g_tg_new, g_cl_new, g_ln_new, g_I_new, g_J_new, g_R_new, g_eI_new, g_eJ_new, g_eR_new, g_tg_arr, g_cl_arr, g_ln_arr, g_I_arr, g_J_arr, g_R_arr, g_eI_arr, g_eJ_arr, g_eR_arr, hb, false_and, and_false, if_false, ite_false]
  have eI : st_eI (st_sR σ f a v) b = st_eI σ b := by funext j; simp only [g_tg_sI, g_cl_sI, g_ln_sI, g_I_sI, g_J_sI, g_R_sI, g_eI_sI, g_eJ_sI, g_eR_sI, g_tg_uI, g_cl_uI, g_ln_uI, g_I_uI, g_J_uI, g_R_uI, g_eI_uI, g_eJ_uI, g_eR_uI, g_tg_sJ, g_cl_sJ, g_ln_sJ, g_I_sJ, g_J_sJ, g_R_sJ, g_eI_sJ, g_eJ_sJ, g_eR_sJ, g_tg_uJ, g_cl_uJ, g_ln_uJ, g_I_uJ, g_J_uJ, g_R_uJ, g_eI_uJ, g_eJ_uJ, g_eR_uJ, g_tg_sR, g_cl_sR, g_ln_sR, g_I_sR, g_J_sR, g_R_sR, g_eI_sR, g_eJ_sR, g_eR_sR, g_tg_uR, g_cl_uR, g_ln_uR, g_I_uR, g_J_uR, g_R_uR, g_eI_uR, g_eJ_uR, g_eR_uR, g_tg_new, g_cl_new, g_ln_new, g_I_new, g_J_new, g_R_new, g_eI_new, g_eJ_new, g_eR_new, g_tg_arr, g_cl_arr, g_ln_arr, g_I_arr, g_J_arr, g_R_arr, g_eI_arr, g_eJ_arr, g_eR_arr, hb, false_and, and_false, if_false, ite_false]
  have eJ : st_eJ (st_sR σ f a v) b = st_eJ σ b := by funext j; simp only [g_tg_sI, g_cl_sI, g_ln_sI, g_I_sI, g_J_sI, g_R_sI, g_eI_sI, g_eJ_sI, g_eR_sI, g_tg_uI, g_cl_uI, g_ln_uI, g_I_uI, g_J_uI, g_R_uI, g_eI_uI, g_eJ_uI, g_eR_uI, g_tg_sJ, g_cl_sJ, g_ln_sJ, g_I_sJ, g_J_sJ, g_R_sJ, g_eI_sJ, g_eJ_sJ, g_eR_sJ, g_tg_uJ, g_cl_uJ, g_ln_uJ, g_I_uJ, g_J_uJ, g_R_uJ, g_eI_uJ, g_eJ_uJ, g_eR_uJ, g_tg_sR, g_cl_sR, g_ln_sR, g_I_sR, g_J_sR, g_R_sR, g_eI_sR, g_eJ_sR, g_eR_sR, g_tg_uR, g_cl_uR, g_ln_uR, g_I_uR, g_J_uR, g_R_uR, g_eI_uR, g_eJ_uR, g_eR_uR, g_tg_new, g_cl_new, g_ln_new, g_I_new, g_J_new, g_R_new, g_eI_new, g_eJ_new, g_eR_new, g_tg_arr, g_cl_arr, g_ln_arr, g_I_arr, g_J_arr, g_R_arr, g_eI_arr, g_eJ_arr, g_eR_arr, hb, false_and, and_false, if_false, ite_false]
  have eR : st_eR (st_sR σ f a v) b = st_eR σ b := by funext j; simp only [g_tg_sI, g_cl_sI, g_ln_sI, g_I_sI, g_J_sI, g_R_sI, g_eI_sI, g_eJ_sI, g_eR_sI, g_tg_uI, g_cl_uI, g_ln_uI, g_I_uI, g_J_uI, g_R_uI, g_eI_uI, g_eJ_uI, g_eR_uI, g_tg_sJ, g_cl_sJ, g_ln_sJ, g_I_sJ, g_J_sJ, g_R_sJ, g_eI_sJ, g_eJ_sJ, g_eR_sJ, g_tg_uJ, g_cl_uJ, g_ln_uJ, g_I_uJ, g_J_uJ, g_R_uJ, g_eI_uJ, g_eJ_uJ, g_eR_uJ, g_tg_sR, g_cl_sR, g_ln_sR, g_I_sR, g_J_sR, g_R_sR, g_eI_sR, g_eJ_sR, g_eR_sR, g_tg_uR, g_cl_uR, g_ln_uR, g_I_uR, g_J_uR, g_R_uR, g_eI_uR, g_eJ_uR, g_eR_uR, g_tg_new, g_cl_new, g_ln_new, g_I_new, g_J_new, g_R_new, g_eI_new, g_eJ_new, g_eR_new, g_tg_arr, g_cl_arr, g_ln_arr, g_I_arr, g_J_arr, g_R_arr, g_eI_arr, g_eJ_arr, g_eR_arr, hb, false_and, and_false, if_false, ite_false]
  have e2 : ∀ kz, st_ce (st_sR σ f a v) b kz = st_ce σ b kz := fun kz => by simp only [st_ce, fl_0, fl_1, fl_2, fl_3, fl_4, fl_5, fl_6, eI, eJ, eR, g_tg_sI, g_cl_sI, g_ln_sI, g_I_sI, g_J_sI, g_R_sI, g_eI_sI, g_eJ_sI, g_eR_sI, g_tg_uI, g_cl_uI, g_ln_uI, g_I_uI, g_J_uI, g_R_uI, g_eI_uI, g_eJ_uI, g_eR_uI, g_tg_sJ, g_cl_sJ, g_ln_sJ, g_I_sJ, g_J_sJ, g_R_sJ, g_eI_sJ, g_eJ_sJ, g_eR_sJ, g_tg_uJ, g_cl_uJ, g_ln_uJ, g_I_uJ, g_J_uJ, g_R_uJ, g_eI_uJ, g_eJ_uJ, g_eR_uJ, g_tg_sR, g_cl_sR, g_ln_sR, g_I_sR, g_J_sR, g_R_sR, g_eI_sR, g_eJ_sR, g_eR_sR, g_tg_uR, g_cl_uR, g_ln_uR, g_I_uR, g_J_uR, g_R_uR, g_eI_uR, g_eJ_uR, g_eR_uR, g_tg_new, g_cl_new, g_ln_new, g_I_new, g_J_new, g_R_new, g_eI_new, g_eJ_new, g_eR_new, g_tg_arr, g_cl_arr, g_ln_arr, g_I_arr, g_J_arr, g_R_arr, g_eI_arr, g_eJ_arr, g_eR_arr, hb, false_and, and_false, if_false, ite_false]
  unfold st_cell
  rw [e]
  cases st_tg σ b with
  | none => rfl
  | some k => exact congrArg some (e2 k)
theorem cell_uR_ne (σ : ST) (a i : Nat) (v : Option Nat) {b : Nat} (hb : b ≠ a) : st_cell (st_uR σ a i v) b = st_cell σ b := by
  have e : st_tg (st_uR σ a i v) b = st_tg σ b := by simp only [g_tg_sI, g_cl_sI, g_ln_sI, g_I_sI, g_J_sI, g_R_sI, g_eI_sI, g_eJ_sI, g_eR_sI, g_tg_uI, g_cl_uI, g_ln_uI, g_I_uI, g_J_uI, g_R_uI, g_eI_uI, g_eJ_uI, g_eR_uI, g_tg_sJ, g_cl_sJ, g_ln_sJ, g_I_sJ, g_J_sJ, g_R_sJ, g_eI_sJ, g_eJ_sJ, g_eR_sJ, g_tg_uJ, g_cl_uJ, g_ln_uJ, g_I_uJ, g_J_uJ, g_R_uJ, g_eI_uJ, g_eJ_uJ, g_eR_uJ, g_tg_sR, g_cl_sR, g_ln_sR, g_I_sR, g_J_sR, g_R_sR, g_eI_sR, g_eJ_sR, g_eR_sR, g_tg_uR, g_cl_uR, g_ln_uR, g_I_uR, g_J_uR, g_R_uR, g_eI_uR, g_eJ_uR, g_eR_uR, g_tg_new, g_cl_new, g_ln_new, g_I_new, g_J_new, g_R_new, g_eI_new, g_eJ_new, g_eR_new, g_tg_arr, g_cl_arr, g_ln_arr, g_I_arr, g_J_arr, g_R_arr, g_eI_arr, g_eJ_arr, g_eR_arr, hb, false_and, and_false, if_false, ite_false]
  have eI : st_eI (st_uR σ a i v) b = st_eI σ b := by funext j; simp only [g_tg_sI, g_cl_sI, g_ln_sI, g_I_sI, g_J_sI, g_R_sI, g_eI_sI, g_eJ_sI, g_eR_sI, g_tg_uI, g_cl_uI, g_ln_uI, g_I_uI, g_J_uI, g_R_uI, g_eI_uI, g_eJ_uI, g_eR_uI, g_tg_sJ, g_cl_sJ, g_ln_sJ, g_I_sJ, g_J_sJ, g_R_sJ, g_eI_sJ, g_eJ_sJ, g_eR_sJ, g_tg_uJ, g_cl_uJ, g_ln_uJ, g_I_uJ, g_J_uJ, g_R_uJ, g_eI_uJ, g_eJ_uJ, g_eR_uJ, g_tg_sR, g_cl_sR, g_ln_sR, g_I_sR, g_J_sR, g_R_sR, g_eI_sR, g_eJ_sR, g_eR_sR, g_tg_uR, g_cl_uR, g_ln_uR, g_I_uR, g_J_uR, g_R_uR, g_eI_uR, g_eJ_uR, g_eR_uR, g_tg_new, g_cl_new, g_ln_new, g_I_new, g_J_new, g_R_new, g_eI_new, g_eJ_new, g_eR_new, g_tg_arr, g_cl_arr, g_ln_arr, g_I_arr, g_J_arr, g_R_arr, g_eI_arr, g_eJ_arr, g_eR_arr, hb, false_and, and_false, if_false, ite_false]
  have eJ : st_eJ (st_uR σ a i v) b = st_eJ σ b := by funext j; simp only [g_tg_sI, g_cl_sI, g_ln_sI, g_I_sI, g_J_sI, g_R_sI, g_eI_sI, g_eJ_sI, g_eR_sI, g_tg_uI, g_cl_uI, g_ln_uI, g_I_uI, g_J_uI, g_R_uI, g_eI_uI, g_eJ_uI, g_eR_uI, g_tg_sJ, g_cl_sJ, g_ln_sJ, g_I_sJ, g_J_sJ, g_R_sJ, g_eI_sJ, g_eJ_sJ, g_eR_sJ, g_tg_uJ, g_cl_uJ, g_ln_uJ, g_I_uJ, g_J_uJ, g_R_uJ, g_eI_uJ, g_eJ_uJ, g_eR_uJ, g_tg_sR, g_cl_sR, g_ln_sR, g_I_sR, g_J_sR, g_R_sR, g_eI_sR, g_eJ_sR, g_eR_sR, g_tg_uR, g_cl_uR, g_ln_uR, g_I_uR, g_J_uR, g_R_uR, g_eI_uR, g_eJ_uR, g_eR_uR, g_tg_new, g_cl_new, g_ln_new, g_I_new, g_J_new, g_R_new, g_eI_new, g_eJ_new, g_eR_new, g_tg_arr, g_cl_arr, g_ln_arr, g_I_arr, g_J_arr, g_R_arr, g_eI_arr, g_eJ_arr, g_eR_arr, hb, false_and, and_false, if_false, ite_false]
  have eR : st_eR (st_uR σ a i v) b = st_eR σ b := by funext j; simp only [g_tg_sI, g_cl_sI, g_ln_sI, g_I_sI, g_J_sI, g_R_sI, g_eI_sI, g_eJ_sI, g_eR_sI, g_tg_uI, g_cl_uI, g_ln_uI, g_I_uI, g_J_uI, g_R_uI, g_eI_uI, g_eJ_uI, g_eR_uI, g_tg_sJ, g_cl_sJ, g_ln_sJ, g_I_sJ, g_J_sJ, g_R_sJ, g_eI_sJ, g_eJ_sJ, g_eR_sJ, g_tg_uJ, g_cl_uJ, g_ln_uJ, g_I_uJ, g_J_uJ, g_R_uJ, g_eI_uJ, g_eJ_uJ, g_eR_uJ, g_tg_sR, g_cl_sR, g_ln_sR, g_I_sR, g_J_sR, g_R_sR, g_eI_sR, g_eJ_sR, g_eR_sR, g_tg_uR, g_cl_uR, g_ln_uR, g_I_uR, g_J_uR, g_R_uR, g_eI_uR, g_eJ_uR, g_eR_uR, g_tg_new, g_cl_new, g_ln_new, g_I_new, g_J_new, g_R_new, g_eI_new, g_eJ_new, g_eR_new, g_tg_arr, g_cl_arr, g_ln_arr, g_I_arr, g_J_arr, g_R_arr, g_eI_arr, g_eJ_arr, g_eR_arr, hb, false_and, and_false, if_false, ite_false]
  have e2 : ∀ kz, st_ce (st_uR σ a i v) b kz = st_ce σ b kz := fun kz => by simp only [st_ce, fl_0, fl_1, fl_2, fl_3, fl_4, fl_5, fl_6, eI, eJ, eR, g_tg_sI, g_cl_sI, g_ln_sI, g_I_sI, g_J_sI, g_R_sI, g_eI_sI, g_eJ_sI, g_eR_sI, g_tg_uI, g_cl_uI, g_ln_uI, g_I_uI, g_J_uI, g_R_uI, g_eI_uI, g_eJ_uI, g_eR_uI, g_tg_sJ, g_cl_sJ, g_ln_sJ, g_I_sJ, g_J_sJ, g_R_sJ, g_eI_sJ, g_eJ_sJ, g_eR_sJ, g_tg_uJ, g_cl_uJ, g_ln_uJ, g_I_uJ, g_J_uJ, g_R_uJ, g_eI_uJ, g_eJ_uJ, g_eR_uJ, g_tg_sR, g_cl_sR, g_ln_sR, g_I_sR, g_J_sR, g_R_sR, g_eI_sR, g_eJ_sR, g_eR_sR, g_tg_uR, g_cl_uR, g_ln_uR, g_I_uR, g_J_uR, g_R_uR, g_eI_uR, g_eJ_uR, g_eR_uR, g_tg_new, g_cl_new, g_ln_new, g_I_new, g_J_new, g_R_new, g_eI_new, g_eJ_new, g_eR_new, g_tg_arr, g_cl_arr, g_ln_arr, g_I_arr, g_J_arr, g_R_arr, g_eI_arr, g_eJ_arr, g_eR_arr, hb, false_and, and_false, if_false, ite_false]
  unfold st_cell
  rw [e]
  cases st_tg σ b with
  | none => rfl
  | some k => exact congrArg some (e2 k)
theorem cell_new_ne (σ : ST) (q k : Nat) {b : Nat} (hb : b ≠ q) : st_cell (st_new σ q k) b = st_cell σ b := by
  have e : st_tg (st_new σ q k) b = st_tg σ b := by simp only [g_tg_sI, g_cl_sI, g_ln_sI, g_I_sI, g_J_sI, g_R_sI, g_eI_sI, g_eJ_sI, g_eR_sI, g_tg_uI, g_cl_uI, g_ln_uI, g_I_uI, g_J_uI, g_R_uI, g_eI_uI, g_eJ_uI, g_eR_uI, g_tg_sJ, g_cl_sJ, g_ln_sJ, g_I_sJ, g_J_sJ, g_R_sJ, g_eI_sJ, g_eJ_sJ, g_eR_sJ, g_tg_uJ, g_cl_uJ, g_ln_uJ, g_I_uJ, g_J_uJ, g_R_uJ, g_eI_uJ, g_eJ_uJ, g_eR_uJ, g_tg_sR, g_cl_sR, g_ln_sR, g_I_sR, g_J_sR, g_R_sR, g_eI_sR, g_eJ_sR, g_eR_sR, g_tg_uR, g_cl_uR, g_ln_uR, g_I_uR, g_J_uR, g_R_uR, g_eI_uR, g_eJ_uR, g_eR_uR, g_tg_new, g_cl_new, g_ln_new, g_I_new, g_J_new, g_R_new, g_eI_new, g_eJ_new, g_eR_new, g_tg_arr, g_cl_arr, g_ln_arr, g_I_arr, g_J_arr, g_R_arr, g_eI_arr, g_eJ_arr, g_eR_arr, hb, false_and, and_false, if_false, ite_false]
  have eI : st_eI (st_new σ q k) b = st_eI σ b := by funext j; simp only [g_tg_sI, g_cl_sI, g_ln_sI, g_I_sI, g_J_sI, g_R_sI, g_eI_sI, g_eJ_sI, g_eR_sI, g_tg_uI, g_cl_uI, g_ln_uI, g_I_uI, g_J_uI, g_R_uI, g_eI_uI, g_eJ_uI, g_eR_uI, g_tg_sJ, g_cl_sJ, g_ln_sJ, g_I_sJ, g_J_sJ, g_R_sJ, g_eI_sJ, g_eJ_sJ, g_eR_sJ, g_tg_uJ, g_cl_uJ, g_ln_uJ, g_I_uJ, g_J_uJ, g_R_uJ, g_eI_uJ, g_eJ_uJ, g_eR_uJ, g_tg_sR, g_cl_sR, g_ln_sR, g_I_sR, g_J_sR, g_R_sR, g_eI_sR, g_eJ_sR, g_eR_sR, g_tg_uR, g_cl_uR, g_ln_uR, g_I_uR, g_J_uR, g_R_uR, g_eI_uR, g_eJ_uR, g_eR_uR, g_tg_new, g_cl_new, g_ln_new, g_I_new, g_J_new, g_R_new, g_eI_new, g_eJ_new, g_eR_new, g_tg_arr, g_cl_arr, g_ln_arr, g_I_arr, g_J_arr, g_R_arr, g_eI_arr, g_eJ_arr, g_eR_arr, hb, false_and, and_false, if_false, ite_false]
  have eJ : st_eJ (st_new σ q k) b = st_eJ σ b := by funext j; simp only [g_tg_sI, g_cl_sI, g_ln_sI, g_I_sI, g_J_sI, g_R_sI, g_eI_sI, g_eJ_sI, g_eR_sI, g_tg_uI, g_cl_uI, g_ln_uI, g_I_uI, g_J_uI, g_R_uI, g_eI_uI, g_eJ_uI, g_eR_uI, g_tg_sJ, g_cl_sJ, g_ln_sJ, g_I_sJ, g_J_sJ, g_R_sJ, g_eI_sJ, g_eJ_sJ, g_eR_sJ, g_tg_uJ, g_cl_uJ, g_ln_uJ, g_I_uJ, g_J_uJ, g_R_uJ, g_eI_uJ, g_eJ_uJ, g_eR_uJ, g_tg_sR, g_cl_sR, g_ln_sR, g_I_sR, g_J_sR, g_R_sR, g_eI_sR, g_eJ_sR, g_eR_sR, g_tg_uR, g_cl_uR, g_ln_uR, g_I_uR, g_J_uR, g_R_uR, g_eI_uR, g_eJ_uR, g_eR_uR, g_tg_new, g_cl_new, g_ln_new, g_I_new, g_J_new, g_R_new, g_eI_new, g_eJ_new, g_eR_new, g_tg_arr, g_cl_arr, g_ln_arr, g_I_arr, g_J_arr, g_R_arr, g_eI_arr, g_eJ_arr, g_eR_arr, hb, false_and, and_false, if_false, ite_false]
  have eR : st_eR (st_new σ q k) b = st_eR σ b := by funext j; simp only [g_tg_sI, g_cl_sI, g_ln_sI, g_I_sI, g_J_sI, g_R_sI, g_eI_sI, g_eJ_sI, g_eR_sI, g_tg_uI, g_cl_uI, g_ln_uI, g_I_uI, g_J_uI, g_R_uI, g_eI_uI, g_eJ_uI, g_eR_uI, g_tg_sJ, g_cl_sJ, g_ln_sJ, g_I_sJ, g_J_sJ, g_R_sJ, g_eI_sJ, g_eJ_sJ, g_eR_sJ, g_tg_uJ, g_cl_uJ, g_ln_uJ, g_I_uJ, g_J_uJ, g_R_uJ, g_eI_uJ, g_eJ_uJ, g_eR_uJ, g_tg_sR, g_cl_sR, g_ln_sR, g_I_sR, g_J_sR, g_R_sR, g_eI_sR, g_eJ_sR, g_eR_sR, g_tg_uR, g_cl_uR, g_ln_uR, g_I_uR, g_J_uR, g_R_uR, g_eI_uR, g_eJ_uR, g_eR_uR, g_tg_new, g_cl_new, g_ln_new, g_I_new, g_J_new, g_R_new, g_eI_new, g_eJ_new, g_eR_new, g_tg_arr, g_cl_arr, g_ln_arr, g_I_arr, g_J_arr, g_R_arr, g_eI_arr, g_eJ_arr, g_eR_arr, hb, false_and, and_false, if_false, ite_false]
  have e2 : ∀ kz, st_ce (st_new σ q k) b kz = st_ce σ b kz := fun kz => by simp only [st_ce, fl_0, fl_1, fl_2, fl_3, fl_4, fl_5, fl_6, eI, eJ, eR, g_tg_sI, g_cl_sI, g_ln_sI, g_I_sI, g_J_sI, g_R_sI, g_eI_sI, g_eJ_sI, g_eR_sI, g_tg_uI, g_cl_uI, g_ln_uI, g_I_uI, g_J_uI, g_R_uI, g_eI_uI, g_eJ_uI, g_eR_uI, g_tg_sJ, g_cl_sJ, g_ln_sJ, g_I_sJ, g_J_sJ, g_R_sJ, g_eI_sJ, g_eJ_sJ, g_eR_sJ, g_tg_uJ, g_cl_uJ, g_ln_uJ, g_I_uJ, g_J_uJ, g_R_uJ, g_eI_uJ, g_eJ_uJ, g_eR_uJ, g_tg_sR, g_cl_sR, g_ln_sR, g_I_sR, g_J_sR, g_R_sR, g_eI_sR, g_eJ_sR, g_eR_sR, g_tg_uR, g_cl_uR, g_ln_uR, g_I_uR, g_J_uR, g_R_uR, g_eI_uR, g_eJ_uR, g_eR_uR, g_tg_new, g_cl_new, g_ln_new, g_I_new, g_J_new, g_R_new, g_eI_new, g_eJ_new, g_eR_new, g_tg_arr, g_cl_arr, g_ln_arr, g_I_arr, g_J_arr, g_R_arr, g_eI_arr, g_eJ_arr, g_eR_arr, hb, false_and, and_false, if_false, ite_false]
  unfold st_cell
  rw [e]
  cases st_tg σ b with
  | none => rfl
  | some k => exact congrArg some (e2 k)
theorem cell_arr_ne (σ : ST) (q k : Nat) (cA : ClassId) (n : Nat) {b : Nat} (hb : b ≠ q) : st_cell (st_arr σ q k cA n) b = st_cell σ b := by
  have e : st_tg (st_arr σ q k cA n) b = st_tg σ b := by simp only [g_tg_sI, g_cl_sI, g_ln_sI, g_I_sI, g_J_sI, g_R_sI, g_eI_sI, g_eJ_sI, g_eR_sI, g_tg_uI, g_cl_uI, g_ln_uI, g_I_uI, g_J_uI, g_R_uI, g_eI_uI, g_eJ_uI, g_eR_uI, g_tg_sJ, g_cl_sJ, g_ln_sJ, g_I_sJ, g_J_sJ, g_R_sJ, g_eI_sJ, g_eJ_sJ, g_eR_sJ, g_tg_uJ, g_cl_uJ, g_ln_uJ, g_I_uJ, g_J_uJ, g_R_uJ, g_eI_uJ, g_eJ_uJ, g_eR_uJ, g_tg_sR, g_cl_sR, g_ln_sR, g_I_sR, g_J_sR, g_R_sR, g_eI_sR, g_eJ_sR, g_eR_sR, g_tg_uR, g_cl_uR, g_ln_uR, g_I_uR, g_J_uR, g_R_uR, g_eI_uR, g_eJ_uR, g_eR_uR, g_tg_new, g_cl_new, g_ln_new, g_I_new, g_J_new, g_R_new, g_eI_new, g_eJ_new, g_eR_new, g_tg_arr, g_cl_arr, g_ln_arr, g_I_arr, g_J_arr, g_R_arr, g_eI_arr, g_eJ_arr, g_eR_arr, hb, false_and, and_false, if_false, ite_false]
  have eI : st_eI (st_arr σ q k cA n) b = st_eI σ b := by funext j; simp only [g_tg_sI, g_cl_sI, g_ln_sI, g_I_sI, g_J_sI, g_R_sI, g_eI_sI, g_eJ_sI, g_eR_sI, g_tg_uI, g_cl_uI, g_ln_uI, g_I_uI, g_J_uI, g_R_uI, g_eI_uI, g_eJ_uI, g_eR_uI, g_tg_sJ, g_cl_sJ, g_ln_sJ, g_I_sJ, g_J_sJ, g_R_sJ, g_eI_sJ, g_eJ_sJ, g_eR_sJ, g_tg_uJ, g_cl_uJ, g_ln_uJ, g_I_uJ, g_J_uJ, g_R_uJ, g_eI_uJ, g_eJ_uJ, g_eR_uJ, g_tg_sR, g_cl_sR, g_ln_sR, g_I_sR, g_J_sR, g_R_sR, g_eI_sR, g_eJ_sR, g_eR_sR, g_tg_uR, g_cl_uR, g_ln_uR, g_I_uR, g_J_uR, g_R_uR, g_eI_uR, g_eJ_uR, g_eR_uR, g_tg_new, g_cl_new, g_ln_new, g_I_new, g_J_new, g_R_new, g_eI_new, g_eJ_new, g_eR_new, g_tg_arr, g_cl_arr, g_ln_arr, g_I_arr, g_J_arr, g_R_arr, g_eI_arr, g_eJ_arr, g_eR_arr, hb, false_and, and_false, if_false, ite_false]
  have eJ : st_eJ (st_arr σ q k cA n) b = st_eJ σ b := by funext j; simp only [g_tg_sI, g_cl_sI, g_ln_sI, g_I_sI, g_J_sI, g_R_sI, g_eI_sI, g_eJ_sI, g_eR_sI, g_tg_uI, g_cl_uI, g_ln_uI, g_I_uI, g_J_uI, g_R_uI, g_eI_uI, g_eJ_uI, g_eR_uI, g_tg_sJ, g_cl_sJ, g_ln_sJ, g_I_sJ, g_J_sJ, g_R_sJ, g_eI_sJ, g_eJ_sJ, g_eR_sJ, g_tg_uJ, g_cl_uJ, g_ln_uJ, g_I_uJ, g_J_uJ, g_R_uJ, g_eI_uJ, g_eJ_uJ, g_eR_uJ, g_tg_sR, g_cl_sR, g_ln_sR, g_I_sR, g_J_sR, g_R_sR, g_eI_sR, g_eJ_sR, g_eR_sR, g_tg_uR, g_cl_uR, g_ln_uR, g_I_uR, g_J_uR, g_R_uR, g_eI_uR, g_eJ_uR, g_eR_uR, g_tg_new, g_cl_new, g_ln_new, g_I_new, g_J_new, g_R_new, g_eI_new, g_eJ_new, g_eR_new, g_tg_arr, g_cl_arr, g_ln_arr, g_I_arr, g_J_arr, g_R_arr, g_eI_arr, g_eJ_arr, g_eR_arr, hb, false_and, and_false, if_false, ite_false]
  have eR : st_eR (st_arr σ q k cA n) b = st_eR σ b := by funext j; simp only [g_tg_sI, g_cl_sI, g_ln_sI, g_I_sI, g_J_sI, g_R_sI, g_eI_sI, g_eJ_sI, g_eR_sI, g_tg_uI, g_cl_uI, g_ln_uI, g_I_uI, g_J_uI, g_R_uI, g_eI_uI, g_eJ_uI, g_eR_uI, g_tg_sJ, g_cl_sJ, g_ln_sJ, g_I_sJ, g_J_sJ, g_R_sJ, g_eI_sJ, g_eJ_sJ, g_eR_sJ, g_tg_uJ, g_cl_uJ, g_ln_uJ, g_I_uJ, g_J_uJ, g_R_uJ, g_eI_uJ, g_eJ_uJ, g_eR_uJ, g_tg_sR, g_cl_sR, g_ln_sR, g_I_sR, g_J_sR, g_R_sR, g_eI_sR, g_eJ_sR, g_eR_sR, g_tg_uR, g_cl_uR, g_ln_uR, g_I_uR, g_J_uR, g_R_uR, g_eI_uR, g_eJ_uR, g_eR_uR, g_tg_new, g_cl_new, g_ln_new, g_I_new, g_J_new, g_R_new, g_eI_new, g_eJ_new, g_eR_new, g_tg_arr, g_cl_arr, g_ln_arr, g_I_arr, g_J_arr, g_R_arr, g_eI_arr, g_eJ_arr, g_eR_arr, hb, false_and, and_false, if_false, ite_false]
  have e2 : ∀ kz, st_ce (st_arr σ q k cA n) b kz = st_ce σ b kz := fun kz => by simp only [st_ce, fl_0, fl_1, fl_2, fl_3, fl_4, fl_5, fl_6, eI, eJ, eR, g_tg_sI, g_cl_sI, g_ln_sI, g_I_sI, g_J_sI, g_R_sI, g_eI_sI, g_eJ_sI, g_eR_sI, g_tg_uI, g_cl_uI, g_ln_uI, g_I_uI, g_J_uI, g_R_uI, g_eI_uI, g_eJ_uI, g_eR_uI, g_tg_sJ, g_cl_sJ, g_ln_sJ, g_I_sJ, g_J_sJ, g_R_sJ, g_eI_sJ, g_eJ_sJ, g_eR_sJ, g_tg_uJ, g_cl_uJ, g_ln_uJ, g_I_uJ, g_J_uJ, g_R_uJ, g_eI_uJ, g_eJ_uJ, g_eR_uJ, g_tg_sR, g_cl_sR, g_ln_sR, g_I_sR, g_J_sR, g_R_sR, g_eI_sR, g_eJ_sR, g_eR_sR, g_tg_uR, g_cl_uR, g_ln_uR, g_I_uR, g_J_uR, g_R_uR, g_eI_uR, g_eJ_uR, g_eR_uR, g_tg_new, g_cl_new, g_ln_new, g_I_new, g_J_new, g_R_new, g_eI_new, g_eJ_new, g_eR_new, g_tg_arr, g_cl_arr, g_ln_arr, g_I_arr, g_J_arr, g_R_arr, g_eI_arr, g_eJ_arr, g_eR_arr, hb, false_and, and_false, if_false, ite_false]
  unfold st_cell
  rw [e]
  cases st_tg σ b with
  | none => rfl
  | some k => exact congrArg some (e2 k)
theorem put_0_0 (σ : ST) (a : Nat) (v : Option Nat) (h : st_tg σ a = some 0) : st_cell (st_sR σ 0 a v) = va_up (st_cell σ) a (some (.inr (0, (fl_0 σ a).set 0 (va_rf v)))) := by
  funext b
  by_cases hb : b = a
  · subst hb; rw [va_up_self, cell_0 (σ := st_sR σ 0 b v) (by rw [g_tg_sR]; exact h)]; simp [g_tg_sI, g_cl_sI, g_ln_sI, g_I_sI, g_J_sI, g_R_sI, g_eI_sI, g_eJ_sI, g_eR_sI, g_tg_uI, g_cl_uI, g_ln_uI, g_I_uI, g_J_uI, g_R_uI, g_eI_uI, g_eJ_uI, g_eR_uI, g_tg_sJ, g_cl_sJ, g_ln_sJ, g_I_sJ, g_J_sJ, g_R_sJ, g_eI_sJ, g_eJ_sJ, g_eR_sJ, g_tg_uJ, g_cl_uJ, g_ln_uJ, g_I_uJ, g_J_uJ, g_R_uJ, g_eI_uJ, g_eJ_uJ, g_eR_uJ, g_tg_sR, g_cl_sR, g_ln_sR, g_I_sR, g_J_sR, g_R_sR, g_eI_sR, g_eJ_sR, g_eR_sR, g_tg_uR, g_cl_uR, g_ln_uR, g_I_uR, g_J_uR, g_R_uR, g_eI_uR, g_eJ_uR, g_eR_uR, g_tg_new, g_cl_new, g_ln_new, g_I_new, g_J_new, g_R_new, g_eI_new, g_eJ_new, g_eR_new, g_tg_arr, g_cl_arr, g_ln_arr, g_I_arr, g_J_arr, g_R_arr, g_eI_arr, g_eJ_arr, g_eR_arr]
  · rw [va_up_ne _ _ hb]; exact cell_sR_ne σ _ _ _ hb
theorem put_0_1 (σ : ST) (a : Nat) (v : Option Nat) (h : st_tg σ a = some 0) : st_cell (st_sR σ 1 a v) = va_up (st_cell σ) a (some (.inr (0, (fl_0 σ a).set 1 (va_rf v)))) := by
  funext b
  by_cases hb : b = a
  · subst hb; rw [va_up_self, cell_0 (σ := st_sR σ 1 b v) (by rw [g_tg_sR]; exact h)]; simp [g_tg_sI, g_cl_sI, g_ln_sI, g_I_sI, g_J_sI, g_R_sI, g_eI_sI, g_eJ_sI, g_eR_sI, g_tg_uI, g_cl_uI, g_ln_uI, g_I_uI, g_J_uI, g_R_uI, g_eI_uI, g_eJ_uI, g_eR_uI, g_tg_sJ, g_cl_sJ, g_ln_sJ, g_I_sJ, g_J_sJ, g_R_sJ, g_eI_sJ, g_eJ_sJ, g_eR_sJ, g_tg_uJ, g_cl_uJ, g_ln_uJ, g_I_uJ, g_J_uJ, g_R_uJ, g_eI_uJ, g_eJ_uJ, g_eR_uJ, g_tg_sR, g_cl_sR, g_ln_sR, g_I_sR, g_J_sR, g_R_sR, g_eI_sR, g_eJ_sR, g_eR_sR, g_tg_uR, g_cl_uR, g_ln_uR, g_I_uR, g_J_uR, g_R_uR, g_eI_uR, g_eJ_uR, g_eR_uR, g_tg_new, g_cl_new, g_ln_new, g_I_new, g_J_new, g_R_new, g_eI_new, g_eJ_new, g_eR_new, g_tg_arr, g_cl_arr, g_ln_arr, g_I_arr, g_J_arr, g_R_arr, g_eI_arr, g_eJ_arr, g_eR_arr]
  · rw [va_up_ne _ _ hb]; exact cell_sR_ne σ _ _ _ hb
theorem put_0_2 (σ : ST) (a : Nat) (v : Option Nat) (h : st_tg σ a = some 0) : st_cell (st_sR σ 2 a v) = va_up (st_cell σ) a (some (.inr (0, (fl_0 σ a).set 2 (va_rf v)))) := by
  funext b
  by_cases hb : b = a
  · subst hb; rw [va_up_self, cell_0 (σ := st_sR σ 2 b v) (by rw [g_tg_sR]; exact h)]; simp [g_tg_sI, g_cl_sI, g_ln_sI, g_I_sI, g_J_sI, g_R_sI, g_eI_sI, g_eJ_sI, g_eR_sI, g_tg_uI, g_cl_uI, g_ln_uI, g_I_uI, g_J_uI, g_R_uI, g_eI_uI, g_eJ_uI, g_eR_uI, g_tg_sJ, g_cl_sJ, g_ln_sJ, g_I_sJ, g_J_sJ, g_R_sJ, g_eI_sJ, g_eJ_sJ, g_eR_sJ, g_tg_uJ, g_cl_uJ, g_ln_uJ, g_I_uJ, g_J_uJ, g_R_uJ, g_eI_uJ, g_eJ_uJ, g_eR_uJ, g_tg_sR, g_cl_sR, g_ln_sR, g_I_sR, g_J_sR, g_R_sR, g_eI_sR, g_eJ_sR, g_eR_sR, g_tg_uR, g_cl_uR, g_ln_uR, g_I_uR, g_J_uR, g_R_uR, g_eI_uR, g_eJ_uR, g_eR_uR, g_tg_new, g_cl_new, g_ln_new, g_I_new, g_J_new, g_R_new, g_eI_new, g_eJ_new, g_eR_new, g_tg_arr, g_cl_arr, g_ln_arr, g_I_arr, g_J_arr, g_R_arr, g_eI_arr, g_eJ_arr, g_eR_arr]
  · rw [va_up_ne _ _ hb]; exact cell_sR_ne σ _ _ _ hb
theorem put_0_3 (σ : ST) (a : Nat) (v : Int32) (h : st_tg σ a = some 0) : st_cell (st_sI σ 3 a v) = va_up (st_cell σ) a (some (.inr (0, (fl_0 σ a).set 3 (.int v)))) := by
  funext b
  by_cases hb : b = a
  · subst hb; rw [va_up_self, cell_0 (σ := st_sI σ 3 b v) (by rw [g_tg_sI]; exact h)]; simp [g_tg_sI, g_cl_sI, g_ln_sI, g_I_sI, g_J_sI, g_R_sI, g_eI_sI, g_eJ_sI, g_eR_sI, g_tg_uI, g_cl_uI, g_ln_uI, g_I_uI, g_J_uI, g_R_uI, g_eI_uI, g_eJ_uI, g_eR_uI, g_tg_sJ, g_cl_sJ, g_ln_sJ, g_I_sJ, g_J_sJ, g_R_sJ, g_eI_sJ, g_eJ_sJ, g_eR_sJ, g_tg_uJ, g_cl_uJ, g_ln_uJ, g_I_uJ, g_J_uJ, g_R_uJ, g_eI_uJ, g_eJ_uJ, g_eR_uJ, g_tg_sR, g_cl_sR, g_ln_sR, g_I_sR, g_J_sR, g_R_sR, g_eI_sR, g_eJ_sR, g_eR_sR, g_tg_uR, g_cl_uR, g_ln_uR, g_I_uR, g_J_uR, g_R_uR, g_eI_uR, g_eJ_uR, g_eR_uR, g_tg_new, g_cl_new, g_ln_new, g_I_new, g_J_new, g_R_new, g_eI_new, g_eJ_new, g_eR_new, g_tg_arr, g_cl_arr, g_ln_arr, g_I_arr, g_J_arr, g_R_arr, g_eI_arr, g_eJ_arr, g_eR_arr]
  · rw [va_up_ne _ _ hb]; exact cell_sI_ne σ _ _ _ hb
theorem put_0_4 (σ : ST) (a : Nat) (v : Option Nat) (h : st_tg σ a = some 0) : st_cell (st_sR σ 4 a v) = va_up (st_cell σ) a (some (.inr (0, (fl_0 σ a).set 4 (va_rf v)))) := by
  funext b
  by_cases hb : b = a
  · subst hb; rw [va_up_self, cell_0 (σ := st_sR σ 4 b v) (by rw [g_tg_sR]; exact h)]; simp [g_tg_sI, g_cl_sI, g_ln_sI, g_I_sI, g_J_sI, g_R_sI, g_eI_sI, g_eJ_sI, g_eR_sI, g_tg_uI, g_cl_uI, g_ln_uI, g_I_uI, g_J_uI, g_R_uI, g_eI_uI, g_eJ_uI, g_eR_uI, g_tg_sJ, g_cl_sJ, g_ln_sJ, g_I_sJ, g_J_sJ, g_R_sJ, g_eI_sJ, g_eJ_sJ, g_eR_sJ, g_tg_uJ, g_cl_uJ, g_ln_uJ, g_I_uJ, g_J_uJ, g_R_uJ, g_eI_uJ, g_eJ_uJ, g_eR_uJ, g_tg_sR, g_cl_sR, g_ln_sR, g_I_sR, g_J_sR, g_R_sR, g_eI_sR, g_eJ_sR, g_eR_sR, g_tg_uR, g_cl_uR, g_ln_uR, g_I_uR, g_J_uR, g_R_uR, g_eI_uR, g_eJ_uR, g_eR_uR, g_tg_new, g_cl_new, g_ln_new, g_I_new, g_J_new, g_R_new, g_eI_new, g_eJ_new, g_eR_new, g_tg_arr, g_cl_arr, g_ln_arr, g_I_arr, g_J_arr, g_R_arr, g_eI_arr, g_eJ_arr, g_eR_arr]
  · rw [va_up_ne _ _ hb]; exact cell_sR_ne σ _ _ _ hb
theorem put_0_5 (σ : ST) (a : Nat) (v : Int32) (h : st_tg σ a = some 0) : st_cell (st_sI σ 5 a v) = va_up (st_cell σ) a (some (.inr (0, (fl_0 σ a).set 5 (.int v)))) := by
  funext b
  by_cases hb : b = a
  · subst hb; rw [va_up_self, cell_0 (σ := st_sI σ 5 b v) (by rw [g_tg_sI]; exact h)]; simp [g_tg_sI, g_cl_sI, g_ln_sI, g_I_sI, g_J_sI, g_R_sI, g_eI_sI, g_eJ_sI, g_eR_sI, g_tg_uI, g_cl_uI, g_ln_uI, g_I_uI, g_J_uI, g_R_uI, g_eI_uI, g_eJ_uI, g_eR_uI, g_tg_sJ, g_cl_sJ, g_ln_sJ, g_I_sJ, g_J_sJ, g_R_sJ, g_eI_sJ, g_eJ_sJ, g_eR_sJ, g_tg_uJ, g_cl_uJ, g_ln_uJ, g_I_uJ, g_J_uJ, g_R_uJ, g_eI_uJ, g_eJ_uJ, g_eR_uJ, g_tg_sR, g_cl_sR, g_ln_sR, g_I_sR, g_J_sR, g_R_sR, g_eI_sR, g_eJ_sR, g_eR_sR, g_tg_uR, g_cl_uR, g_ln_uR, g_I_uR, g_J_uR, g_R_uR, g_eI_uR, g_eJ_uR, g_eR_uR, g_tg_new, g_cl_new, g_ln_new, g_I_new, g_J_new, g_R_new, g_eI_new, g_eJ_new, g_eR_new, g_tg_arr, g_cl_arr, g_ln_arr, g_I_arr, g_J_arr, g_R_arr, g_eI_arr, g_eJ_arr, g_eR_arr]
  · rw [va_up_ne _ _ hb]; exact cell_sI_ne σ _ _ _ hb
theorem put_0_6 (σ : ST) (a : Nat) (v : Int32) (h : st_tg σ a = some 0) : st_cell (st_sI σ 6 a v) = va_up (st_cell σ) a (some (.inr (0, (fl_0 σ a).set 6 (.int v)))) := by
  funext b
  by_cases hb : b = a
  · subst hb; rw [va_up_self, cell_0 (σ := st_sI σ 6 b v) (by rw [g_tg_sI]; exact h)]; simp [g_tg_sI, g_cl_sI, g_ln_sI, g_I_sI, g_J_sI, g_R_sI, g_eI_sI, g_eJ_sI, g_eR_sI, g_tg_uI, g_cl_uI, g_ln_uI, g_I_uI, g_J_uI, g_R_uI, g_eI_uI, g_eJ_uI, g_eR_uI, g_tg_sJ, g_cl_sJ, g_ln_sJ, g_I_sJ, g_J_sJ, g_R_sJ, g_eI_sJ, g_eJ_sJ, g_eR_sJ, g_tg_uJ, g_cl_uJ, g_ln_uJ, g_I_uJ, g_J_uJ, g_R_uJ, g_eI_uJ, g_eJ_uJ, g_eR_uJ, g_tg_sR, g_cl_sR, g_ln_sR, g_I_sR, g_J_sR, g_R_sR, g_eI_sR, g_eJ_sR, g_eR_sR, g_tg_uR, g_cl_uR, g_ln_uR, g_I_uR, g_J_uR, g_R_uR, g_eI_uR, g_eJ_uR, g_eR_uR, g_tg_new, g_cl_new, g_ln_new, g_I_new, g_J_new, g_R_new, g_eI_new, g_eJ_new, g_eR_new, g_tg_arr, g_cl_arr, g_ln_arr, g_I_arr, g_J_arr, g_R_arr, g_eI_arr, g_eJ_arr, g_eR_arr]
  · rw [va_up_ne _ _ hb]; exact cell_sI_ne σ _ _ _ hb
theorem put_0_7 (σ : ST) (a : Nat) (v : Option Nat) (h : st_tg σ a = some 0) : st_cell (st_sR σ 7 a v) = va_up (st_cell σ) a (some (.inr (0, (fl_0 σ a).set 7 (va_rf v)))) := by
  funext b
  by_cases hb : b = a
  · subst hb; rw [va_up_self, cell_0 (σ := st_sR σ 7 b v) (by rw [g_tg_sR]; exact h)]; simp [g_tg_sI, g_cl_sI, g_ln_sI, g_I_sI, g_J_sI, g_R_sI, g_eI_sI, g_eJ_sI, g_eR_sI, g_tg_uI, g_cl_uI, g_ln_uI, g_I_uI, g_J_uI, g_R_uI, g_eI_uI, g_eJ_uI, g_eR_uI, g_tg_sJ, g_cl_sJ, g_ln_sJ, g_I_sJ, g_J_sJ, g_R_sJ, g_eI_sJ, g_eJ_sJ, g_eR_sJ, g_tg_uJ, g_cl_uJ, g_ln_uJ, g_I_uJ, g_J_uJ, g_R_uJ, g_eI_uJ, g_eJ_uJ, g_eR_uJ, g_tg_sR, g_cl_sR, g_ln_sR, g_I_sR, g_J_sR, g_R_sR, g_eI_sR, g_eJ_sR, g_eR_sR, g_tg_uR, g_cl_uR, g_ln_uR, g_I_uR, g_J_uR, g_R_uR, g_eI_uR, g_eJ_uR, g_eR_uR, g_tg_new, g_cl_new, g_ln_new, g_I_new, g_J_new, g_R_new, g_eI_new, g_eJ_new, g_eR_new, g_tg_arr, g_cl_arr, g_ln_arr, g_I_arr, g_J_arr, g_R_arr, g_eI_arr, g_eJ_arr, g_eR_arr]
  · rw [va_up_ne _ _ hb]; exact cell_sR_ne σ _ _ _ hb
theorem put_0_8 (σ : ST) (a : Nat) (v : Int32) (h : st_tg σ a = some 0) : st_cell (st_sI σ 8 a v) = va_up (st_cell σ) a (some (.inr (0, (fl_0 σ a).set 8 (.int v)))) := by
  funext b
  by_cases hb : b = a
  · subst hb; rw [va_up_self, cell_0 (σ := st_sI σ 8 b v) (by rw [g_tg_sI]; exact h)]; simp [g_tg_sI, g_cl_sI, g_ln_sI, g_I_sI, g_J_sI, g_R_sI, g_eI_sI, g_eJ_sI, g_eR_sI, g_tg_uI, g_cl_uI, g_ln_uI, g_I_uI, g_J_uI, g_R_uI, g_eI_uI, g_eJ_uI, g_eR_uI, g_tg_sJ, g_cl_sJ, g_ln_sJ, g_I_sJ, g_J_sJ, g_R_sJ, g_eI_sJ, g_eJ_sJ, g_eR_sJ, g_tg_uJ, g_cl_uJ, g_ln_uJ, g_I_uJ, g_J_uJ, g_R_uJ, g_eI_uJ, g_eJ_uJ, g_eR_uJ, g_tg_sR, g_cl_sR, g_ln_sR, g_I_sR, g_J_sR, g_R_sR, g_eI_sR, g_eJ_sR, g_eR_sR, g_tg_uR, g_cl_uR, g_ln_uR, g_I_uR, g_J_uR, g_R_uR, g_eI_uR, g_eJ_uR, g_eR_uR, g_tg_new, g_cl_new, g_ln_new, g_I_new, g_J_new, g_R_new, g_eI_new, g_eJ_new, g_eR_new, g_tg_arr, g_cl_arr, g_ln_arr, g_I_arr, g_J_arr, g_R_arr, g_eI_arr, g_eJ_arr, g_eR_arr]
  · rw [va_up_ne _ _ hb]; exact cell_sI_ne σ _ _ _ hb
theorem put_0_9 (σ : ST) (a : Nat) (v : Option Nat) (h : st_tg σ a = some 0) : st_cell (st_sR σ 9 a v) = va_up (st_cell σ) a (some (.inr (0, (fl_0 σ a).set 9 (va_rf v)))) := by
  funext b
  by_cases hb : b = a
  · subst hb; rw [va_up_self, cell_0 (σ := st_sR σ 9 b v) (by rw [g_tg_sR]; exact h)]; simp [g_tg_sI, g_cl_sI, g_ln_sI, g_I_sI, g_J_sI, g_R_sI, g_eI_sI, g_eJ_sI, g_eR_sI, g_tg_uI, g_cl_uI, g_ln_uI, g_I_uI, g_J_uI, g_R_uI, g_eI_uI, g_eJ_uI, g_eR_uI, g_tg_sJ, g_cl_sJ, g_ln_sJ, g_I_sJ, g_J_sJ, g_R_sJ, g_eI_sJ, g_eJ_sJ, g_eR_sJ, g_tg_uJ, g_cl_uJ, g_ln_uJ, g_I_uJ, g_J_uJ, g_R_uJ, g_eI_uJ, g_eJ_uJ, g_eR_uJ, g_tg_sR, g_cl_sR, g_ln_sR, g_I_sR, g_J_sR, g_R_sR, g_eI_sR, g_eJ_sR, g_eR_sR, g_tg_uR, g_cl_uR, g_ln_uR, g_I_uR, g_J_uR, g_R_uR, g_eI_uR, g_eJ_uR, g_eR_uR, g_tg_new, g_cl_new, g_ln_new, g_I_new, g_J_new, g_R_new, g_eI_new, g_eJ_new, g_eR_new, g_tg_arr, g_cl_arr, g_ln_arr, g_I_arr, g_J_arr, g_R_arr, g_eI_arr, g_eJ_arr, g_eR_arr]
  · rw [va_up_ne _ _ hb]; exact cell_sR_ne σ _ _ _ hb
abbrev df_0 : List Value := [va_rf none, va_rf none, va_rf none, .int 0, va_rf none, .int 0, .int 0, va_rf none, .int 0, va_rf none]
theorem new_0 (σ : ST) (q : Nat) (h : st_tg σ q = none) : st_cell (st_new σ q 0) = va_up (st_cell σ) q (some (.inr (0, df_0))) := by
  funext b
  by_cases hb : b = q
  · subst hb; rw [va_up_self, cell_0 (σ := st_new σ b 0) (by rw [g_tg_new, if_pos rfl])]; simp [g_tg_sI, g_cl_sI, g_ln_sI, g_I_sI, g_J_sI, g_R_sI, g_eI_sI, g_eJ_sI, g_eR_sI, g_tg_uI, g_cl_uI, g_ln_uI, g_I_uI, g_J_uI, g_R_uI, g_eI_uI, g_eJ_uI, g_eR_uI, g_tg_sJ, g_cl_sJ, g_ln_sJ, g_I_sJ, g_J_sJ, g_R_sJ, g_eI_sJ, g_eJ_sJ, g_eR_sJ, g_tg_uJ, g_cl_uJ, g_ln_uJ, g_I_uJ, g_J_uJ, g_R_uJ, g_eI_uJ, g_eJ_uJ, g_eR_uJ, g_tg_sR, g_cl_sR, g_ln_sR, g_I_sR, g_J_sR, g_R_sR, g_eI_sR, g_eJ_sR, g_eR_sR, g_tg_uR, g_cl_uR, g_ln_uR, g_I_uR, g_J_uR, g_R_uR, g_eI_uR, g_eJ_uR, g_eR_uR, g_tg_new, g_cl_new, g_ln_new, g_I_new, g_J_new, g_R_new, g_eI_new, g_eJ_new, g_eR_new, g_tg_arr, g_cl_arr, g_ln_arr, g_I_arr, g_J_arr, g_R_arr, g_eI_arr, g_eJ_arr, g_eR_arr]
  · rw [va_up_ne _ _ hb]; exact cell_new_ne σ _ _ hb
theorem put_1_0 (σ : ST) (a : Nat) (v : Int32) (h : st_tg σ a = some 1) : st_cell (st_sI σ 40 a v) = va_up (st_cell σ) a (some (.inr (1, (fl_1 σ a).set 0 (.int v)))) := by
  funext b
  by_cases hb : b = a
  · subst hb; rw [va_up_self, cell_1 (σ := st_sI σ 40 b v) (by rw [g_tg_sI]; exact h)]; simp [g_tg_sI, g_cl_sI, g_ln_sI, g_I_sI, g_J_sI, g_R_sI, g_eI_sI, g_eJ_sI, g_eR_sI, g_tg_uI, g_cl_uI, g_ln_uI, g_I_uI, g_J_uI, g_R_uI, g_eI_uI, g_eJ_uI, g_eR_uI, g_tg_sJ, g_cl_sJ, g_ln_sJ, g_I_sJ, g_J_sJ, g_R_sJ, g_eI_sJ, g_eJ_sJ, g_eR_sJ, g_tg_uJ, g_cl_uJ, g_ln_uJ, g_I_uJ, g_J_uJ, g_R_uJ, g_eI_uJ, g_eJ_uJ, g_eR_uJ, g_tg_sR, g_cl_sR, g_ln_sR, g_I_sR, g_J_sR, g_R_sR, g_eI_sR, g_eJ_sR, g_eR_sR, g_tg_uR, g_cl_uR, g_ln_uR, g_I_uR, g_J_uR, g_R_uR, g_eI_uR, g_eJ_uR, g_eR_uR, g_tg_new, g_cl_new, g_ln_new, g_I_new, g_J_new, g_R_new, g_eI_new, g_eJ_new, g_eR_new, g_tg_arr, g_cl_arr, g_ln_arr, g_I_arr, g_J_arr, g_R_arr, g_eI_arr, g_eJ_arr, g_eR_arr]
  · rw [va_up_ne _ _ hb]; exact cell_sI_ne σ _ _ _ hb
theorem put_1_1 (σ : ST) (a : Nat) (v : Option Nat) (h : st_tg σ a = some 1) : st_cell (st_sR σ 41 a v) = va_up (st_cell σ) a (some (.inr (1, (fl_1 σ a).set 1 (va_rf v)))) := by
  funext b
  by_cases hb : b = a
  · subst hb; rw [va_up_self, cell_1 (σ := st_sR σ 41 b v) (by rw [g_tg_sR]; exact h)]; simp [g_tg_sI, g_cl_sI, g_ln_sI, g_I_sI, g_J_sI, g_R_sI, g_eI_sI, g_eJ_sI, g_eR_sI, g_tg_uI, g_cl_uI, g_ln_uI, g_I_uI, g_J_uI, g_R_uI, g_eI_uI, g_eJ_uI, g_eR_uI, g_tg_sJ, g_cl_sJ, g_ln_sJ, g_I_sJ, g_J_sJ, g_R_sJ, g_eI_sJ, g_eJ_sJ, g_eR_sJ, g_tg_uJ, g_cl_uJ, g_ln_uJ, g_I_uJ, g_J_uJ, g_R_uJ, g_eI_uJ, g_eJ_uJ, g_eR_uJ, g_tg_sR, g_cl_sR, g_ln_sR, g_I_sR, g_J_sR, g_R_sR, g_eI_sR, g_eJ_sR, g_eR_sR, g_tg_uR, g_cl_uR, g_ln_uR, g_I_uR, g_J_uR, g_R_uR, g_eI_uR, g_eJ_uR, g_eR_uR, g_tg_new, g_cl_new, g_ln_new, g_I_new, g_J_new, g_R_new, g_eI_new, g_eJ_new, g_eR_new, g_tg_arr, g_cl_arr, g_ln_arr, g_I_arr, g_J_arr, g_R_arr, g_eI_arr, g_eJ_arr, g_eR_arr]
  · rw [va_up_ne _ _ hb]; exact cell_sR_ne σ _ _ _ hb
theorem put_1_2 (σ : ST) (a : Nat) (v : Option Nat) (h : st_tg σ a = some 1) : st_cell (st_sR σ 42 a v) = va_up (st_cell σ) a (some (.inr (1, (fl_1 σ a).set 2 (va_rf v)))) := by
  funext b
  by_cases hb : b = a
  · subst hb; rw [va_up_self, cell_1 (σ := st_sR σ 42 b v) (by rw [g_tg_sR]; exact h)]; simp [g_tg_sI, g_cl_sI, g_ln_sI, g_I_sI, g_J_sI, g_R_sI, g_eI_sI, g_eJ_sI, g_eR_sI, g_tg_uI, g_cl_uI, g_ln_uI, g_I_uI, g_J_uI, g_R_uI, g_eI_uI, g_eJ_uI, g_eR_uI, g_tg_sJ, g_cl_sJ, g_ln_sJ, g_I_sJ, g_J_sJ, g_R_sJ, g_eI_sJ, g_eJ_sJ, g_eR_sJ, g_tg_uJ, g_cl_uJ, g_ln_uJ, g_I_uJ, g_J_uJ, g_R_uJ, g_eI_uJ, g_eJ_uJ, g_eR_uJ, g_tg_sR, g_cl_sR, g_ln_sR, g_I_sR, g_J_sR, g_R_sR, g_eI_sR, g_eJ_sR, g_eR_sR, g_tg_uR, g_cl_uR, g_ln_uR, g_I_uR, g_J_uR, g_R_uR, g_eI_uR, g_eJ_uR, g_eR_uR, g_tg_new, g_cl_new, g_ln_new, g_I_new, g_J_new, g_R_new, g_eI_new, g_eJ_new, g_eR_new, g_tg_arr, g_cl_arr, g_ln_arr, g_I_arr, g_J_arr, g_R_arr, g_eI_arr, g_eJ_arr, g_eR_arr]
  · rw [va_up_ne _ _ hb]; exact cell_sR_ne σ _ _ _ hb
theorem put_1_3 (σ : ST) (a : Nat) (v : Option Nat) (h : st_tg σ a = some 1) : st_cell (st_sR σ 43 a v) = va_up (st_cell σ) a (some (.inr (1, (fl_1 σ a).set 3 (va_rf v)))) := by
  funext b
  by_cases hb : b = a
  · subst hb; rw [va_up_self, cell_1 (σ := st_sR σ 43 b v) (by rw [g_tg_sR]; exact h)]; simp [g_tg_sI, g_cl_sI, g_ln_sI, g_I_sI, g_J_sI, g_R_sI, g_eI_sI, g_eJ_sI, g_eR_sI, g_tg_uI, g_cl_uI, g_ln_uI, g_I_uI, g_J_uI, g_R_uI, g_eI_uI, g_eJ_uI, g_eR_uI, g_tg_sJ, g_cl_sJ, g_ln_sJ, g_I_sJ, g_J_sJ, g_R_sJ, g_eI_sJ, g_eJ_sJ, g_eR_sJ, g_tg_uJ, g_cl_uJ, g_ln_uJ, g_I_uJ, g_J_uJ, g_R_uJ, g_eI_uJ, g_eJ_uJ, g_eR_uJ, g_tg_sR, g_cl_sR, g_ln_sR, g_I_sR, g_J_sR, g_R_sR, g_eI_sR, g_eJ_sR, g_eR_sR, g_tg_uR, g_cl_uR, g_ln_uR, g_I_uR, g_J_uR, g_R_uR, g_eI_uR, g_eJ_uR, g_eR_uR, g_tg_new, g_cl_new, g_ln_new, g_I_new, g_J_new, g_R_new, g_eI_new, g_eJ_new, g_eR_new, g_tg_arr, g_cl_arr, g_ln_arr, g_I_arr, g_J_arr, g_R_arr, g_eI_arr, g_eJ_arr, g_eR_arr]
  · rw [va_up_ne _ _ hb]; exact cell_sR_ne σ _ _ _ hb
theorem put_1_4 (σ : ST) (a : Nat) (v : Option Nat) (h : st_tg σ a = some 1) : st_cell (st_sR σ 44 a v) = va_up (st_cell σ) a (some (.inr (1, (fl_1 σ a).set 4 (va_rf v)))) := by
  funext b
  by_cases hb : b = a
  · subst hb; rw [va_up_self, cell_1 (σ := st_sR σ 44 b v) (by rw [g_tg_sR]; exact h)]; simp [g_tg_sI, g_cl_sI, g_ln_sI, g_I_sI, g_J_sI, g_R_sI, g_eI_sI, g_eJ_sI, g_eR_sI, g_tg_uI, g_cl_uI, g_ln_uI, g_I_uI, g_J_uI, g_R_uI, g_eI_uI, g_eJ_uI, g_eR_uI, g_tg_sJ, g_cl_sJ, g_ln_sJ, g_I_sJ, g_J_sJ, g_R_sJ, g_eI_sJ, g_eJ_sJ, g_eR_sJ, g_tg_uJ, g_cl_uJ, g_ln_uJ, g_I_uJ, g_J_uJ, g_R_uJ, g_eI_uJ, g_eJ_uJ, g_eR_uJ, g_tg_sR, g_cl_sR, g_ln_sR, g_I_sR, g_J_sR, g_R_sR, g_eI_sR, g_eJ_sR, g_eR_sR, g_tg_uR, g_cl_uR, g_ln_uR, g_I_uR, g_J_uR, g_R_uR, g_eI_uR, g_eJ_uR, g_eR_uR, g_tg_new, g_cl_new, g_ln_new, g_I_new, g_J_new, g_R_new, g_eI_new, g_eJ_new, g_eR_new, g_tg_arr, g_cl_arr, g_ln_arr, g_I_arr, g_J_arr, g_R_arr, g_eI_arr, g_eJ_arr, g_eR_arr]
  · rw [va_up_ne _ _ hb]; exact cell_sR_ne σ _ _ _ hb
theorem put_1_5 (σ : ST) (a : Nat) (v : Option Nat) (h : st_tg σ a = some 1) : st_cell (st_sR σ 45 a v) = va_up (st_cell σ) a (some (.inr (1, (fl_1 σ a).set 5 (va_rf v)))) := by
  funext b
  by_cases hb : b = a
  · subst hb; rw [va_up_self, cell_1 (σ := st_sR σ 45 b v) (by rw [g_tg_sR]; exact h)]; simp [g_tg_sI, g_cl_sI, g_ln_sI, g_I_sI, g_J_sI, g_R_sI, g_eI_sI, g_eJ_sI, g_eR_sI, g_tg_uI, g_cl_uI, g_ln_uI, g_I_uI, g_J_uI, g_R_uI, g_eI_uI, g_eJ_uI, g_eR_uI, g_tg_sJ, g_cl_sJ, g_ln_sJ, g_I_sJ, g_J_sJ, g_R_sJ, g_eI_sJ, g_eJ_sJ, g_eR_sJ, g_tg_uJ, g_cl_uJ, g_ln_uJ, g_I_uJ, g_J_uJ, g_R_uJ, g_eI_uJ, g_eJ_uJ, g_eR_uJ, g_tg_sR, g_cl_sR, g_ln_sR, g_I_sR, g_J_sR, g_R_sR, g_eI_sR, g_eJ_sR, g_eR_sR, g_tg_uR, g_cl_uR, g_ln_uR, g_I_uR, g_J_uR, g_R_uR, g_eI_uR, g_eJ_uR, g_eR_uR, g_tg_new, g_cl_new, g_ln_new, g_I_new, g_J_new, g_R_new, g_eI_new, g_eJ_new, g_eR_new, g_tg_arr, g_cl_arr, g_ln_arr, g_I_arr, g_J_arr, g_R_arr, g_eI_arr, g_eJ_arr, g_eR_arr]
  · rw [va_up_ne _ _ hb]; exact cell_sR_ne σ _ _ _ hb
theorem put_1_6 (σ : ST) (a : Nat) (v : Option Nat) (h : st_tg σ a = some 1) : st_cell (st_sR σ 46 a v) = va_up (st_cell σ) a (some (.inr (1, (fl_1 σ a).set 6 (va_rf v)))) := by
  funext b
  by_cases hb : b = a
  · subst hb; rw [va_up_self, cell_1 (σ := st_sR σ 46 b v) (by rw [g_tg_sR]; exact h)]; simp [g_tg_sI, g_cl_sI, g_ln_sI, g_I_sI, g_J_sI, g_R_sI, g_eI_sI, g_eJ_sI, g_eR_sI, g_tg_uI, g_cl_uI, g_ln_uI, g_I_uI, g_J_uI, g_R_uI, g_eI_uI, g_eJ_uI, g_eR_uI, g_tg_sJ, g_cl_sJ, g_ln_sJ, g_I_sJ, g_J_sJ, g_R_sJ, g_eI_sJ, g_eJ_sJ, g_eR_sJ, g_tg_uJ, g_cl_uJ, g_ln_uJ, g_I_uJ, g_J_uJ, g_R_uJ, g_eI_uJ, g_eJ_uJ, g_eR_uJ, g_tg_sR, g_cl_sR, g_ln_sR, g_I_sR, g_J_sR, g_R_sR, g_eI_sR, g_eJ_sR, g_eR_sR, g_tg_uR, g_cl_uR, g_ln_uR, g_I_uR, g_J_uR, g_R_uR, g_eI_uR, g_eJ_uR, g_eR_uR, g_tg_new, g_cl_new, g_ln_new, g_I_new, g_J_new, g_R_new, g_eI_new, g_eJ_new, g_eR_new, g_tg_arr, g_cl_arr, g_ln_arr, g_I_arr, g_J_arr, g_R_arr, g_eI_arr, g_eJ_arr, g_eR_arr]
  · rw [va_up_ne _ _ hb]; exact cell_sR_ne σ _ _ _ hb
theorem put_1_7 (σ : ST) (a : Nat) (v : Option Nat) (h : st_tg σ a = some 1) : st_cell (st_sR σ 47 a v) = va_up (st_cell σ) a (some (.inr (1, (fl_1 σ a).set 7 (va_rf v)))) := by
  funext b
  by_cases hb : b = a
  · subst hb; rw [va_up_self, cell_1 (σ := st_sR σ 47 b v) (by rw [g_tg_sR]; exact h)]; simp [g_tg_sI, g_cl_sI, g_ln_sI, g_I_sI, g_J_sI, g_R_sI, g_eI_sI, g_eJ_sI, g_eR_sI, g_tg_uI, g_cl_uI, g_ln_uI, g_I_uI, g_J_uI, g_R_uI, g_eI_uI, g_eJ_uI, g_eR_uI, g_tg_sJ, g_cl_sJ, g_ln_sJ, g_I_sJ, g_J_sJ, g_R_sJ, g_eI_sJ, g_eJ_sJ, g_eR_sJ, g_tg_uJ, g_cl_uJ, g_ln_uJ, g_I_uJ, g_J_uJ, g_R_uJ, g_eI_uJ, g_eJ_uJ, g_eR_uJ, g_tg_sR, g_cl_sR, g_ln_sR, g_I_sR, g_J_sR, g_R_sR, g_eI_sR, g_eJ_sR, g_eR_sR, g_tg_uR, g_cl_uR, g_ln_uR, g_I_uR, g_J_uR, g_R_uR, g_eI_uR, g_eJ_uR, g_eR_uR, g_tg_new, g_cl_new, g_ln_new, g_I_new, g_J_new, g_R_new, g_eI_new, g_eJ_new, g_eR_new, g_tg_arr, g_cl_arr, g_ln_arr, g_I_arr, g_J_arr, g_R_arr, g_eI_arr, g_eJ_arr, g_eR_arr]
  · rw [va_up_ne _ _ hb]; exact cell_sR_ne σ _ _ _ hb
theorem put_1_8 (σ : ST) (a : Nat) (v : Option Nat) (h : st_tg σ a = some 1) : st_cell (st_sR σ 48 a v) = va_up (st_cell σ) a (some (.inr (1, (fl_1 σ a).set 8 (va_rf v)))) := by
  funext b
  by_cases hb : b = a
  · subst hb; rw [va_up_self, cell_1 (σ := st_sR σ 48 b v) (by rw [g_tg_sR]; exact h)]; simp [g_tg_sI, g_cl_sI, g_ln_sI, g_I_sI, g_J_sI, g_R_sI, g_eI_sI, g_eJ_sI, g_eR_sI, g_tg_uI, g_cl_uI, g_ln_uI, g_I_uI, g_J_uI, g_R_uI, g_eI_uI, g_eJ_uI, g_eR_uI, g_tg_sJ, g_cl_sJ, g_ln_sJ, g_I_sJ, g_J_sJ, g_R_sJ, g_eI_sJ, g_eJ_sJ, g_eR_sJ, g_tg_uJ, g_cl_uJ, g_ln_uJ, g_I_uJ, g_J_uJ, g_R_uJ, g_eI_uJ, g_eJ_uJ, g_eR_uJ, g_tg_sR, g_cl_sR, g_ln_sR, g_I_sR, g_J_sR, g_R_sR, g_eI_sR, g_eJ_sR, g_eR_sR, g_tg_uR, g_cl_uR, g_ln_uR, g_I_uR, g_J_uR, g_R_uR, g_eI_uR, g_eJ_uR, g_eR_uR, g_tg_new, g_cl_new, g_ln_new, g_I_new, g_J_new, g_R_new, g_eI_new, g_eJ_new, g_eR_new, g_tg_arr, g_cl_arr, g_ln_arr, g_I_arr, g_J_arr, g_R_arr, g_eI_arr, g_eJ_arr, g_eR_arr]
  · rw [va_up_ne _ _ hb]; exact cell_sR_ne σ _ _ _ hb
theorem put_1_9 (σ : ST) (a : Nat) (v : Option Nat) (h : st_tg σ a = some 1) : st_cell (st_sR σ 49 a v) = va_up (st_cell σ) a (some (.inr (1, (fl_1 σ a).set 9 (va_rf v)))) := by
  funext b
  by_cases hb : b = a
  · subst hb; rw [va_up_self, cell_1 (σ := st_sR σ 49 b v) (by rw [g_tg_sR]; exact h)]; simp [g_tg_sI, g_cl_sI, g_ln_sI, g_I_sI, g_J_sI, g_R_sI, g_eI_sI, g_eJ_sI, g_eR_sI, g_tg_uI, g_cl_uI, g_ln_uI, g_I_uI, g_J_uI, g_R_uI, g_eI_uI, g_eJ_uI, g_eR_uI, g_tg_sJ, g_cl_sJ, g_ln_sJ, g_I_sJ, g_J_sJ, g_R_sJ, g_eI_sJ, g_eJ_sJ, g_eR_sJ, g_tg_uJ, g_cl_uJ, g_ln_uJ, g_I_uJ, g_J_uJ, g_R_uJ, g_eI_uJ, g_eJ_uJ, g_eR_uJ, g_tg_sR, g_cl_sR, g_ln_sR, g_I_sR, g_J_sR, g_R_sR, g_eI_sR, g_eJ_sR, g_eR_sR, g_tg_uR, g_cl_uR, g_ln_uR, g_I_uR, g_J_uR, g_R_uR, g_eI_uR, g_eJ_uR, g_eR_uR, g_tg_new, g_cl_new, g_ln_new, g_I_new, g_J_new, g_R_new, g_eI_new, g_eJ_new, g_eR_new, g_tg_arr, g_cl_arr, g_ln_arr, g_I_arr, g_J_arr, g_R_arr, g_eI_arr, g_eJ_arr, g_eR_arr]
  · rw [va_up_ne _ _ hb]; exact cell_sR_ne σ _ _ _ hb
theorem put_1_10 (σ : ST) (a : Nat) (v : Option Nat) (h : st_tg σ a = some 1) : st_cell (st_sR σ 50 a v) = va_up (st_cell σ) a (some (.inr (1, (fl_1 σ a).set 10 (va_rf v)))) := by
  funext b
  by_cases hb : b = a
  · subst hb; rw [va_up_self, cell_1 (σ := st_sR σ 50 b v) (by rw [g_tg_sR]; exact h)]; simp [g_tg_sI, g_cl_sI, g_ln_sI, g_I_sI, g_J_sI, g_R_sI, g_eI_sI, g_eJ_sI, g_eR_sI, g_tg_uI, g_cl_uI, g_ln_uI, g_I_uI, g_J_uI, g_R_uI, g_eI_uI, g_eJ_uI, g_eR_uI, g_tg_sJ, g_cl_sJ, g_ln_sJ, g_I_sJ, g_J_sJ, g_R_sJ, g_eI_sJ, g_eJ_sJ, g_eR_sJ, g_tg_uJ, g_cl_uJ, g_ln_uJ, g_I_uJ, g_J_uJ, g_R_uJ, g_eI_uJ, g_eJ_uJ, g_eR_uJ, g_tg_sR, g_cl_sR, g_ln_sR, g_I_sR, g_J_sR, g_R_sR, g_eI_sR, g_eJ_sR, g_eR_sR, g_tg_uR, g_cl_uR, g_ln_uR, g_I_uR, g_J_uR, g_R_uR, g_eI_uR, g_eJ_uR, g_eR_uR, g_tg_new, g_cl_new, g_ln_new, g_I_new, g_J_new, g_R_new, g_eI_new, g_eJ_new, g_eR_new, g_tg_arr, g_cl_arr, g_ln_arr, g_I_arr, g_J_arr, g_R_arr, g_eI_arr, g_eJ_arr, g_eR_arr]
  · rw [va_up_ne _ _ hb]; exact cell_sR_ne σ _ _ _ hb
theorem put_1_11 (σ : ST) (a : Nat) (v : Option Nat) (h : st_tg σ a = some 1) : st_cell (st_sR σ 51 a v) = va_up (st_cell σ) a (some (.inr (1, (fl_1 σ a).set 11 (va_rf v)))) := by
  funext b
  by_cases hb : b = a
  · subst hb; rw [va_up_self, cell_1 (σ := st_sR σ 51 b v) (by rw [g_tg_sR]; exact h)]; simp [g_tg_sI, g_cl_sI, g_ln_sI, g_I_sI, g_J_sI, g_R_sI, g_eI_sI, g_eJ_sI, g_eR_sI, g_tg_uI, g_cl_uI, g_ln_uI, g_I_uI, g_J_uI, g_R_uI, g_eI_uI, g_eJ_uI, g_eR_uI, g_tg_sJ, g_cl_sJ, g_ln_sJ, g_I_sJ, g_J_sJ, g_R_sJ, g_eI_sJ, g_eJ_sJ, g_eR_sJ, g_tg_uJ, g_cl_uJ, g_ln_uJ, g_I_uJ, g_J_uJ, g_R_uJ, g_eI_uJ, g_eJ_uJ, g_eR_uJ, g_tg_sR, g_cl_sR, g_ln_sR, g_I_sR, g_J_sR, g_R_sR, g_eI_sR, g_eJ_sR, g_eR_sR, g_tg_uR, g_cl_uR, g_ln_uR, g_I_uR, g_J_uR, g_R_uR, g_eI_uR, g_eJ_uR, g_eR_uR, g_tg_new, g_cl_new, g_ln_new, g_I_new, g_J_new, g_R_new, g_eI_new, g_eJ_new, g_eR_new, g_tg_arr, g_cl_arr, g_ln_arr, g_I_arr, g_J_arr, g_R_arr, g_eI_arr, g_eJ_arr, g_eR_arr]
  · rw [va_up_ne _ _ hb]; exact cell_sR_ne σ _ _ _ hb
theorem put_1_12 (σ : ST) (a : Nat) (v : Option Nat) (h : st_tg σ a = some 1) : st_cell (st_sR σ 52 a v) = va_up (st_cell σ) a (some (.inr (1, (fl_1 σ a).set 12 (va_rf v)))) := by
  funext b
  by_cases hb : b = a
  · subst hb; rw [va_up_self, cell_1 (σ := st_sR σ 52 b v) (by rw [g_tg_sR]; exact h)]; simp [g_tg_sI, g_cl_sI, g_ln_sI, g_I_sI, g_J_sI, g_R_sI, g_eI_sI, g_eJ_sI, g_eR_sI, g_tg_uI, g_cl_uI, g_ln_uI, g_I_uI, g_J_uI, g_R_uI, g_eI_uI, g_eJ_uI, g_eR_uI, g_tg_sJ, g_cl_sJ, g_ln_sJ, g_I_sJ, g_J_sJ, g_R_sJ, g_eI_sJ, g_eJ_sJ, g_eR_sJ, g_tg_uJ, g_cl_uJ, g_ln_uJ, g_I_uJ, g_J_uJ, g_R_uJ, g_eI_uJ, g_eJ_uJ, g_eR_uJ, g_tg_sR, g_cl_sR, g_ln_sR, g_I_sR, g_J_sR, g_R_sR, g_eI_sR, g_eJ_sR, g_eR_sR, g_tg_uR, g_cl_uR, g_ln_uR, g_I_uR, g_J_uR, g_R_uR, g_eI_uR, g_eJ_uR, g_eR_uR, g_tg_new, g_cl_new, g_ln_new, g_I_new, g_J_new, g_R_new, g_eI_new, g_eJ_new, g_eR_new, g_tg_arr, g_cl_arr, g_ln_arr, g_I_arr, g_J_arr, g_R_arr, g_eI_arr, g_eJ_arr, g_eR_arr]
  · rw [va_up_ne _ _ hb]; exact cell_sR_ne σ _ _ _ hb
theorem put_1_13 (σ : ST) (a : Nat) (v : Option Nat) (h : st_tg σ a = some 1) : st_cell (st_sR σ 53 a v) = va_up (st_cell σ) a (some (.inr (1, (fl_1 σ a).set 13 (va_rf v)))) := by
  funext b
  by_cases hb : b = a
  · subst hb; rw [va_up_self, cell_1 (σ := st_sR σ 53 b v) (by rw [g_tg_sR]; exact h)]; simp [g_tg_sI, g_cl_sI, g_ln_sI, g_I_sI, g_J_sI, g_R_sI, g_eI_sI, g_eJ_sI, g_eR_sI, g_tg_uI, g_cl_uI, g_ln_uI, g_I_uI, g_J_uI, g_R_uI, g_eI_uI, g_eJ_uI, g_eR_uI, g_tg_sJ, g_cl_sJ, g_ln_sJ, g_I_sJ, g_J_sJ, g_R_sJ, g_eI_sJ, g_eJ_sJ, g_eR_sJ, g_tg_uJ, g_cl_uJ, g_ln_uJ, g_I_uJ, g_J_uJ, g_R_uJ, g_eI_uJ, g_eJ_uJ, g_eR_uJ, g_tg_sR, g_cl_sR, g_ln_sR, g_I_sR, g_J_sR, g_R_sR, g_eI_sR, g_eJ_sR, g_eR_sR, g_tg_uR, g_cl_uR, g_ln_uR, g_I_uR, g_J_uR, g_R_uR, g_eI_uR, g_eJ_uR, g_eR_uR, g_tg_new, g_cl_new, g_ln_new, g_I_new, g_J_new, g_R_new, g_eI_new, g_eJ_new, g_eR_new, g_tg_arr, g_cl_arr, g_ln_arr, g_I_arr, g_J_arr, g_R_arr, g_eI_arr, g_eJ_arr, g_eR_arr]
  · rw [va_up_ne _ _ hb]; exact cell_sR_ne σ _ _ _ hb
theorem put_1_14 (σ : ST) (a : Nat) (v : Option Nat) (h : st_tg σ a = some 1) : st_cell (st_sR σ 54 a v) = va_up (st_cell σ) a (some (.inr (1, (fl_1 σ a).set 14 (va_rf v)))) := by
  funext b
  by_cases hb : b = a
  · subst hb; rw [va_up_self, cell_1 (σ := st_sR σ 54 b v) (by rw [g_tg_sR]; exact h)]; simp [g_tg_sI, g_cl_sI, g_ln_sI, g_I_sI, g_J_sI, g_R_sI, g_eI_sI, g_eJ_sI, g_eR_sI, g_tg_uI, g_cl_uI, g_ln_uI, g_I_uI, g_J_uI, g_R_uI, g_eI_uI, g_eJ_uI, g_eR_uI, g_tg_sJ, g_cl_sJ, g_ln_sJ, g_I_sJ, g_J_sJ, g_R_sJ, g_eI_sJ, g_eJ_sJ, g_eR_sJ, g_tg_uJ, g_cl_uJ, g_ln_uJ, g_I_uJ, g_J_uJ, g_R_uJ, g_eI_uJ, g_eJ_uJ, g_eR_uJ, g_tg_sR, g_cl_sR, g_ln_sR, g_I_sR, g_J_sR, g_R_sR, g_eI_sR, g_eJ_sR, g_eR_sR, g_tg_uR, g_cl_uR, g_ln_uR, g_I_uR, g_J_uR, g_R_uR, g_eI_uR, g_eJ_uR, g_eR_uR, g_tg_new, g_cl_new, g_ln_new, g_I_new, g_J_new, g_R_new, g_eI_new, g_eJ_new, g_eR_new, g_tg_arr, g_cl_arr, g_ln_arr, g_I_arr, g_J_arr, g_R_arr, g_eI_arr, g_eJ_arr, g_eR_arr]
  · rw [va_up_ne _ _ hb]; exact cell_sR_ne σ _ _ _ hb
theorem put_1_15 (σ : ST) (a : Nat) (v : Option Nat) (h : st_tg σ a = some 1) : st_cell (st_sR σ 55 a v) = va_up (st_cell σ) a (some (.inr (1, (fl_1 σ a).set 15 (va_rf v)))) := by
  funext b
  by_cases hb : b = a
  · subst hb; rw [va_up_self, cell_1 (σ := st_sR σ 55 b v) (by rw [g_tg_sR]; exact h)]; simp [g_tg_sI, g_cl_sI, g_ln_sI, g_I_sI, g_J_sI, g_R_sI, g_eI_sI, g_eJ_sI, g_eR_sI, g_tg_uI, g_cl_uI, g_ln_uI, g_I_uI, g_J_uI, g_R_uI, g_eI_uI, g_eJ_uI, g_eR_uI, g_tg_sJ, g_cl_sJ, g_ln_sJ, g_I_sJ, g_J_sJ, g_R_sJ, g_eI_sJ, g_eJ_sJ, g_eR_sJ, g_tg_uJ, g_cl_uJ, g_ln_uJ, g_I_uJ, g_J_uJ, g_R_uJ, g_eI_uJ, g_eJ_uJ, g_eR_uJ, g_tg_sR, g_cl_sR, g_ln_sR, g_I_sR, g_J_sR, g_R_sR, g_eI_sR, g_eJ_sR, g_eR_sR, g_tg_uR, g_cl_uR, g_ln_uR, g_I_uR, g_J_uR, g_R_uR, g_eI_uR, g_eJ_uR, g_eR_uR, g_tg_new, g_cl_new, g_ln_new, g_I_new, g_J_new, g_R_new, g_eI_new, g_eJ_new, g_eR_new, g_tg_arr, g_cl_arr, g_ln_arr, g_I_arr, g_J_arr, g_R_arr, g_eI_arr, g_eJ_arr, g_eR_arr]
  · rw [va_up_ne _ _ hb]; exact cell_sR_ne σ _ _ _ hb
theorem put_1_16 (σ : ST) (a : Nat) (v : Option Nat) (h : st_tg σ a = some 1) : st_cell (st_sR σ 56 a v) = va_up (st_cell σ) a (some (.inr (1, (fl_1 σ a).set 16 (va_rf v)))) := by
  funext b
  by_cases hb : b = a
  · subst hb; rw [va_up_self, cell_1 (σ := st_sR σ 56 b v) (by rw [g_tg_sR]; exact h)]; simp [g_tg_sI, g_cl_sI, g_ln_sI, g_I_sI, g_J_sI, g_R_sI, g_eI_sI, g_eJ_sI, g_eR_sI, g_tg_uI, g_cl_uI, g_ln_uI, g_I_uI, g_J_uI, g_R_uI, g_eI_uI, g_eJ_uI, g_eR_uI, g_tg_sJ, g_cl_sJ, g_ln_sJ, g_I_sJ, g_J_sJ, g_R_sJ, g_eI_sJ, g_eJ_sJ, g_eR_sJ, g_tg_uJ, g_cl_uJ, g_ln_uJ, g_I_uJ, g_J_uJ, g_R_uJ, g_eI_uJ, g_eJ_uJ, g_eR_uJ, g_tg_sR, g_cl_sR, g_ln_sR, g_I_sR, g_J_sR, g_R_sR, g_eI_sR, g_eJ_sR, g_eR_sR, g_tg_uR, g_cl_uR, g_ln_uR, g_I_uR, g_J_uR, g_R_uR, g_eI_uR, g_eJ_uR, g_eR_uR, g_tg_new, g_cl_new, g_ln_new, g_I_new, g_J_new, g_R_new, g_eI_new, g_eJ_new, g_eR_new, g_tg_arr, g_cl_arr, g_ln_arr, g_I_arr, g_J_arr, g_R_arr, g_eI_arr, g_eJ_arr, g_eR_arr]
  · rw [va_up_ne _ _ hb]; exact cell_sR_ne σ _ _ _ hb
theorem put_1_17 (σ : ST) (a : Nat) (v : Option Nat) (h : st_tg σ a = some 1) : st_cell (st_sR σ 57 a v) = va_up (st_cell σ) a (some (.inr (1, (fl_1 σ a).set 17 (va_rf v)))) := by
  funext b
  by_cases hb : b = a
  · subst hb; rw [va_up_self, cell_1 (σ := st_sR σ 57 b v) (by rw [g_tg_sR]; exact h)]; simp [g_tg_sI, g_cl_sI, g_ln_sI, g_I_sI, g_J_sI, g_R_sI, g_eI_sI, g_eJ_sI, g_eR_sI, g_tg_uI, g_cl_uI, g_ln_uI, g_I_uI, g_J_uI, g_R_uI, g_eI_uI, g_eJ_uI, g_eR_uI, g_tg_sJ, g_cl_sJ, g_ln_sJ, g_I_sJ, g_J_sJ, g_R_sJ, g_eI_sJ, g_eJ_sJ, g_eR_sJ, g_tg_uJ, g_cl_uJ, g_ln_uJ, g_I_uJ, g_J_uJ, g_R_uJ, g_eI_uJ, g_eJ_uJ, g_eR_uJ, g_tg_sR, g_cl_sR, g_ln_sR, g_I_sR, g_J_sR, g_R_sR, g_eI_sR, g_eJ_sR, g_eR_sR, g_tg_uR, g_cl_uR, g_ln_uR, g_I_uR, g_J_uR, g_R_uR, g_eI_uR, g_eJ_uR, g_eR_uR, g_tg_new, g_cl_new, g_ln_new, g_I_new, g_J_new, g_R_new, g_eI_new, g_eJ_new, g_eR_new, g_tg_arr, g_cl_arr, g_ln_arr, g_I_arr, g_J_arr, g_R_arr, g_eI_arr, g_eJ_arr, g_eR_arr]
  · rw [va_up_ne _ _ hb]; exact cell_sR_ne σ _ _ _ hb
theorem put_1_18 (σ : ST) (a : Nat) (v : Option Nat) (h : st_tg σ a = some 1) : st_cell (st_sR σ 58 a v) = va_up (st_cell σ) a (some (.inr (1, (fl_1 σ a).set 18 (va_rf v)))) := by
  funext b
  by_cases hb : b = a
  · subst hb; rw [va_up_self, cell_1 (σ := st_sR σ 58 b v) (by rw [g_tg_sR]; exact h)]; simp [g_tg_sI, g_cl_sI, g_ln_sI, g_I_sI, g_J_sI, g_R_sI, g_eI_sI, g_eJ_sI, g_eR_sI, g_tg_uI, g_cl_uI, g_ln_uI, g_I_uI, g_J_uI, g_R_uI, g_eI_uI, g_eJ_uI, g_eR_uI, g_tg_sJ, g_cl_sJ, g_ln_sJ, g_I_sJ, g_J_sJ, g_R_sJ, g_eI_sJ, g_eJ_sJ, g_eR_sJ, g_tg_uJ, g_cl_uJ, g_ln_uJ, g_I_uJ, g_J_uJ, g_R_uJ, g_eI_uJ, g_eJ_uJ, g_eR_uJ, g_tg_sR, g_cl_sR, g_ln_sR, g_I_sR, g_J_sR, g_R_sR, g_eI_sR, g_eJ_sR, g_eR_sR, g_tg_uR, g_cl_uR, g_ln_uR, g_I_uR, g_J_uR, g_R_uR, g_eI_uR, g_eJ_uR, g_eR_uR, g_tg_new, g_cl_new, g_ln_new, g_I_new, g_J_new, g_R_new, g_eI_new, g_eJ_new, g_eR_new, g_tg_arr, g_cl_arr, g_ln_arr, g_I_arr, g_J_arr, g_R_arr, g_eI_arr, g_eJ_arr, g_eR_arr]
  · rw [va_up_ne _ _ hb]; exact cell_sR_ne σ _ _ _ hb
theorem put_1_19 (σ : ST) (a : Nat) (v : Option Nat) (h : st_tg σ a = some 1) : st_cell (st_sR σ 59 a v) = va_up (st_cell σ) a (some (.inr (1, (fl_1 σ a).set 19 (va_rf v)))) := by
  funext b
  by_cases hb : b = a
  · subst hb; rw [va_up_self, cell_1 (σ := st_sR σ 59 b v) (by rw [g_tg_sR]; exact h)]; simp [g_tg_sI, g_cl_sI, g_ln_sI, g_I_sI, g_J_sI, g_R_sI, g_eI_sI, g_eJ_sI, g_eR_sI, g_tg_uI, g_cl_uI, g_ln_uI, g_I_uI, g_J_uI, g_R_uI, g_eI_uI, g_eJ_uI, g_eR_uI, g_tg_sJ, g_cl_sJ, g_ln_sJ, g_I_sJ, g_J_sJ, g_R_sJ, g_eI_sJ, g_eJ_sJ, g_eR_sJ, g_tg_uJ, g_cl_uJ, g_ln_uJ, g_I_uJ, g_J_uJ, g_R_uJ, g_eI_uJ, g_eJ_uJ, g_eR_uJ, g_tg_sR, g_cl_sR, g_ln_sR, g_I_sR, g_J_sR, g_R_sR, g_eI_sR, g_eJ_sR, g_eR_sR, g_tg_uR, g_cl_uR, g_ln_uR, g_I_uR, g_J_uR, g_R_uR, g_eI_uR, g_eJ_uR, g_eR_uR, g_tg_new, g_cl_new, g_ln_new, g_I_new, g_J_new, g_R_new, g_eI_new, g_eJ_new, g_eR_new, g_tg_arr, g_cl_arr, g_ln_arr, g_I_arr, g_J_arr, g_R_arr, g_eI_arr, g_eJ_arr, g_eR_arr]
  · rw [va_up_ne _ _ hb]; exact cell_sR_ne σ _ _ _ hb
theorem put_1_20 (σ : ST) (a : Nat) (v : Int32) (h : st_tg σ a = some 1) : st_cell (st_sI σ 60 a v) = va_up (st_cell σ) a (some (.inr (1, (fl_1 σ a).set 20 (.int v)))) := by
  funext b
  by_cases hb : b = a
  · subst hb; rw [va_up_self, cell_1 (σ := st_sI σ 60 b v) (by rw [g_tg_sI]; exact h)]; simp [g_tg_sI, g_cl_sI, g_ln_sI, g_I_sI, g_J_sI, g_R_sI, g_eI_sI, g_eJ_sI, g_eR_sI, g_tg_uI, g_cl_uI, g_ln_uI, g_I_uI, g_J_uI, g_R_uI, g_eI_uI, g_eJ_uI, g_eR_uI, g_tg_sJ, g_cl_sJ, g_ln_sJ, g_I_sJ, g_J_sJ, g_R_sJ, g_eI_sJ, g_eJ_sJ, g_eR_sJ, g_tg_uJ, g_cl_uJ, g_ln_uJ, g_I_uJ, g_J_uJ, g_R_uJ, g_eI_uJ, g_eJ_uJ, g_eR_uJ, g_tg_sR, g_cl_sR, g_ln_sR, g_I_sR, g_J_sR, g_R_sR, g_eI_sR, g_eJ_sR, g_eR_sR, g_tg_uR, g_cl_uR, g_ln_uR, g_I_uR, g_J_uR, g_R_uR, g_eI_uR, g_eJ_uR, g_eR_uR, g_tg_new, g_cl_new, g_ln_new, g_I_new, g_J_new, g_R_new, g_eI_new, g_eJ_new, g_eR_new, g_tg_arr, g_cl_arr, g_ln_arr, g_I_arr, g_J_arr, g_R_arr, g_eI_arr, g_eJ_arr, g_eR_arr]
  · rw [va_up_ne _ _ hb]; exact cell_sI_ne σ _ _ _ hb
theorem put_1_21 (σ : ST) (a : Nat) (v : Int32) (h : st_tg σ a = some 1) : st_cell (st_sI σ 61 a v) = va_up (st_cell σ) a (some (.inr (1, (fl_1 σ a).set 21 (.int v)))) := by
  funext b
  by_cases hb : b = a
  · subst hb; rw [va_up_self, cell_1 (σ := st_sI σ 61 b v) (by rw [g_tg_sI]; exact h)]; simp [g_tg_sI, g_cl_sI, g_ln_sI, g_I_sI, g_J_sI, g_R_sI, g_eI_sI, g_eJ_sI, g_eR_sI, g_tg_uI, g_cl_uI, g_ln_uI, g_I_uI, g_J_uI, g_R_uI, g_eI_uI, g_eJ_uI, g_eR_uI, g_tg_sJ, g_cl_sJ, g_ln_sJ, g_I_sJ, g_J_sJ, g_R_sJ, g_eI_sJ, g_eJ_sJ, g_eR_sJ, g_tg_uJ, g_cl_uJ, g_ln_uJ, g_I_uJ, g_J_uJ, g_R_uJ, g_eI_uJ, g_eJ_uJ, g_eR_uJ, g_tg_sR, g_cl_sR, g_ln_sR, g_I_sR, g_J_sR, g_R_sR, g_eI_sR, g_eJ_sR, g_eR_sR, g_tg_uR, g_cl_uR, g_ln_uR, g_I_uR, g_J_uR, g_R_uR, g_eI_uR, g_eJ_uR, g_eR_uR, g_tg_new, g_cl_new, g_ln_new, g_I_new, g_J_new, g_R_new, g_eI_new, g_eJ_new, g_eR_new, g_tg_arr, g_cl_arr, g_ln_arr, g_I_arr, g_J_arr, g_R_arr, g_eI_arr, g_eJ_arr, g_eR_arr]
  · rw [va_up_ne _ _ hb]; exact cell_sI_ne σ _ _ _ hb
theorem put_1_22 (σ : ST) (a : Nat) (v : Option Nat) (h : st_tg σ a = some 1) : st_cell (st_sR σ 62 a v) = va_up (st_cell σ) a (some (.inr (1, (fl_1 σ a).set 22 (va_rf v)))) := by
  funext b
  by_cases hb : b = a
  · subst hb; rw [va_up_self, cell_1 (σ := st_sR σ 62 b v) (by rw [g_tg_sR]; exact h)]; simp [g_tg_sI, g_cl_sI, g_ln_sI, g_I_sI, g_J_sI, g_R_sI, g_eI_sI, g_eJ_sI, g_eR_sI, g_tg_uI, g_cl_uI, g_ln_uI, g_I_uI, g_J_uI, g_R_uI, g_eI_uI, g_eJ_uI, g_eR_uI, g_tg_sJ, g_cl_sJ, g_ln_sJ, g_I_sJ, g_J_sJ, g_R_sJ, g_eI_sJ, g_eJ_sJ, g_eR_sJ, g_tg_uJ, g_cl_uJ, g_ln_uJ, g_I_uJ, g_J_uJ, g_R_uJ, g_eI_uJ, g_eJ_uJ, g_eR_uJ, g_tg_sR, g_cl_sR, g_ln_sR, g_I_sR, g_J_sR, g_R_sR, g_eI_sR, g_eJ_sR, g_eR_sR, g_tg_uR, g_cl_uR, g_ln_uR, g_I_uR, g_J_uR, g_R_uR, g_eI_uR, g_eJ_uR, g_eR_uR, g_tg_new, g_cl_new, g_ln_new, g_I_new, g_J_new, g_R_new, g_eI_new, g_eJ_new, g_eR_new, g_tg_arr, g_cl_arr, g_ln_arr, g_I_arr, g_J_arr, g_R_arr, g_eI_arr, g_eJ_arr, g_eR_arr]
  · rw [va_up_ne _ _ hb]; exact cell_sR_ne σ _ _ _ hb
theorem put_1_23 (σ : ST) (a : Nat) (v : Option Nat) (h : st_tg σ a = some 1) : st_cell (st_sR σ 63 a v) = va_up (st_cell σ) a (some (.inr (1, (fl_1 σ a).set 23 (va_rf v)))) := by
  funext b
  by_cases hb : b = a
  · subst hb; rw [va_up_self, cell_1 (σ := st_sR σ 63 b v) (by rw [g_tg_sR]; exact h)]; simp [g_tg_sI, g_cl_sI, g_ln_sI, g_I_sI, g_J_sI, g_R_sI, g_eI_sI, g_eJ_sI, g_eR_sI, g_tg_uI, g_cl_uI, g_ln_uI, g_I_uI, g_J_uI, g_R_uI, g_eI_uI, g_eJ_uI, g_eR_uI, g_tg_sJ, g_cl_sJ, g_ln_sJ, g_I_sJ, g_J_sJ, g_R_sJ, g_eI_sJ, g_eJ_sJ, g_eR_sJ, g_tg_uJ, g_cl_uJ, g_ln_uJ, g_I_uJ, g_J_uJ, g_R_uJ, g_eI_uJ, g_eJ_uJ, g_eR_uJ, g_tg_sR, g_cl_sR, g_ln_sR, g_I_sR, g_J_sR, g_R_sR, g_eI_sR, g_eJ_sR, g_eR_sR, g_tg_uR, g_cl_uR, g_ln_uR, g_I_uR, g_J_uR, g_R_uR, g_eI_uR, g_eJ_uR, g_eR_uR, g_tg_new, g_cl_new, g_ln_new, g_I_new, g_J_new, g_R_new, g_eI_new, g_eJ_new, g_eR_new, g_tg_arr, g_cl_arr, g_ln_arr, g_I_arr, g_J_arr, g_R_arr, g_eI_arr, g_eJ_arr, g_eR_arr]
  · rw [va_up_ne _ _ hb]; exact cell_sR_ne σ _ _ _ hb
theorem put_1_24 (σ : ST) (a : Nat) (v : Option Nat) (h : st_tg σ a = some 1) : st_cell (st_sR σ 64 a v) = va_up (st_cell σ) a (some (.inr (1, (fl_1 σ a).set 24 (va_rf v)))) := by
  funext b
  by_cases hb : b = a
  · subst hb; rw [va_up_self, cell_1 (σ := st_sR σ 64 b v) (by rw [g_tg_sR]; exact h)]; simp [g_tg_sI, g_cl_sI, g_ln_sI, g_I_sI, g_J_sI, g_R_sI, g_eI_sI, g_eJ_sI, g_eR_sI, g_tg_uI, g_cl_uI, g_ln_uI, g_I_uI, g_J_uI, g_R_uI, g_eI_uI, g_eJ_uI, g_eR_uI, g_tg_sJ, g_cl_sJ, g_ln_sJ, g_I_sJ, g_J_sJ, g_R_sJ, g_eI_sJ, g_eJ_sJ, g_eR_sJ, g_tg_uJ, g_cl_uJ, g_ln_uJ, g_I_uJ, g_J_uJ, g_R_uJ, g_eI_uJ, g_eJ_uJ, g_eR_uJ, g_tg_sR, g_cl_sR, g_ln_sR, g_I_sR, g_J_sR, g_R_sR, g_eI_sR, g_eJ_sR, g_eR_sR, g_tg_uR, g_cl_uR, g_ln_uR, g_I_uR, g_J_uR, g_R_uR, g_eI_uR, g_eJ_uR, g_eR_uR, g_tg_new, g_cl_new, g_ln_new, g_I_new, g_J_new, g_R_new, g_eI_new, g_eJ_new, g_eR_new, g_tg_arr, g_cl_arr, g_ln_arr, g_I_arr, g_J_arr, g_R_arr, g_eI_arr, g_eJ_arr, g_eR_arr]
  · rw [va_up_ne _ _ hb]; exact cell_sR_ne σ _ _ _ hb
theorem put_1_25 (σ : ST) (a : Nat) (v : Option Nat) (h : st_tg σ a = some 1) : st_cell (st_sR σ 65 a v) = va_up (st_cell σ) a (some (.inr (1, (fl_1 σ a).set 25 (va_rf v)))) := by
  funext b
  by_cases hb : b = a
  · subst hb; rw [va_up_self, cell_1 (σ := st_sR σ 65 b v) (by rw [g_tg_sR]; exact h)]; simp [g_tg_sI, g_cl_sI, g_ln_sI, g_I_sI, g_J_sI, g_R_sI, g_eI_sI, g_eJ_sI, g_eR_sI, g_tg_uI, g_cl_uI, g_ln_uI, g_I_uI, g_J_uI, g_R_uI, g_eI_uI, g_eJ_uI, g_eR_uI, g_tg_sJ, g_cl_sJ, g_ln_sJ, g_I_sJ, g_J_sJ, g_R_sJ, g_eI_sJ, g_eJ_sJ, g_eR_sJ, g_tg_uJ, g_cl_uJ, g_ln_uJ, g_I_uJ, g_J_uJ, g_R_uJ, g_eI_uJ, g_eJ_uJ, g_eR_uJ, g_tg_sR, g_cl_sR, g_ln_sR, g_I_sR, g_J_sR, g_R_sR, g_eI_sR, g_eJ_sR, g_eR_sR, g_tg_uR, g_cl_uR, g_ln_uR, g_I_uR, g_J_uR, g_R_uR, g_eI_uR, g_eJ_uR, g_eR_uR, g_tg_new, g_cl_new, g_ln_new, g_I_new, g_J_new, g_R_new, g_eI_new, g_eJ_new, g_eR_new, g_tg_arr, g_cl_arr, g_ln_arr, g_I_arr, g_J_arr, g_R_arr, g_eI_arr, g_eJ_arr, g_eR_arr]
  · rw [va_up_ne _ _ hb]; exact cell_sR_ne σ _ _ _ hb
theorem put_1_26 (σ : ST) (a : Nat) (v : Option Nat) (h : st_tg σ a = some 1) : st_cell (st_sR σ 66 a v) = va_up (st_cell σ) a (some (.inr (1, (fl_1 σ a).set 26 (va_rf v)))) := by
  funext b
  by_cases hb : b = a
  · subst hb; rw [va_up_self, cell_1 (σ := st_sR σ 66 b v) (by rw [g_tg_sR]; exact h)]; simp [g_tg_sI, g_cl_sI, g_ln_sI, g_I_sI, g_J_sI, g_R_sI, g_eI_sI, g_eJ_sI, g_eR_sI, g_tg_uI, g_cl_uI, g_ln_uI, g_I_uI, g_J_uI, g_R_uI, g_eI_uI, g_eJ_uI, g_eR_uI, g_tg_sJ, g_cl_sJ, g_ln_sJ, g_I_sJ, g_J_sJ, g_R_sJ, g_eI_sJ, g_eJ_sJ, g_eR_sJ, g_tg_uJ, g_cl_uJ, g_ln_uJ, g_I_uJ, g_J_uJ, g_R_uJ, g_eI_uJ, g_eJ_uJ, g_eR_uJ, g_tg_sR, g_cl_sR, g_ln_sR, g_I_sR, g_J_sR, g_R_sR, g_eI_sR, g_eJ_sR, g_eR_sR, g_tg_uR, g_cl_uR, g_ln_uR, g_I_uR, g_J_uR, g_R_uR, g_eI_uR, g_eJ_uR, g_eR_uR, g_tg_new, g_cl_new, g_ln_new, g_I_new, g_J_new, g_R_new, g_eI_new, g_eJ_new, g_eR_new, g_tg_arr, g_cl_arr, g_ln_arr, g_I_arr, g_J_arr, g_R_arr, g_eI_arr, g_eJ_arr, g_eR_arr]
  · rw [va_up_ne _ _ hb]; exact cell_sR_ne σ _ _ _ hb
theorem put_1_27 (σ : ST) (a : Nat) (v : Int32) (h : st_tg σ a = some 1) : st_cell (st_sI σ 67 a v) = va_up (st_cell σ) a (some (.inr (1, (fl_1 σ a).set 27 (.int v)))) := by
  funext b
  by_cases hb : b = a
  · subst hb; rw [va_up_self, cell_1 (σ := st_sI σ 67 b v) (by rw [g_tg_sI]; exact h)]; simp [g_tg_sI, g_cl_sI, g_ln_sI, g_I_sI, g_J_sI, g_R_sI, g_eI_sI, g_eJ_sI, g_eR_sI, g_tg_uI, g_cl_uI, g_ln_uI, g_I_uI, g_J_uI, g_R_uI, g_eI_uI, g_eJ_uI, g_eR_uI, g_tg_sJ, g_cl_sJ, g_ln_sJ, g_I_sJ, g_J_sJ, g_R_sJ, g_eI_sJ, g_eJ_sJ, g_eR_sJ, g_tg_uJ, g_cl_uJ, g_ln_uJ, g_I_uJ, g_J_uJ, g_R_uJ, g_eI_uJ, g_eJ_uJ, g_eR_uJ, g_tg_sR, g_cl_sR, g_ln_sR, g_I_sR, g_J_sR, g_R_sR, g_eI_sR, g_eJ_sR, g_eR_sR, g_tg_uR, g_cl_uR, g_ln_uR, g_I_uR, g_J_uR, g_R_uR, g_eI_uR, g_eJ_uR, g_eR_uR, g_tg_new, g_cl_new, g_ln_new, g_I_new, g_J_new, g_R_new, g_eI_new, g_eJ_new, g_eR_new, g_tg_arr, g_cl_arr, g_ln_arr, g_I_arr, g_J_arr, g_R_arr, g_eI_arr, g_eJ_arr, g_eR_arr]
  · rw [va_up_ne _ _ hb]; exact cell_sI_ne σ _ _ _ hb
theorem put_1_28 (σ : ST) (a : Nat) (v : Option Nat) (h : st_tg σ a = some 1) : st_cell (st_sR σ 68 a v) = va_up (st_cell σ) a (some (.inr (1, (fl_1 σ a).set 28 (va_rf v)))) := by
  funext b
  by_cases hb : b = a
  · subst hb; rw [va_up_self, cell_1 (σ := st_sR σ 68 b v) (by rw [g_tg_sR]; exact h)]; simp [g_tg_sI, g_cl_sI, g_ln_sI, g_I_sI, g_J_sI, g_R_sI, g_eI_sI, g_eJ_sI, g_eR_sI, g_tg_uI, g_cl_uI, g_ln_uI, g_I_uI, g_J_uI, g_R_uI, g_eI_uI, g_eJ_uI, g_eR_uI, g_tg_sJ, g_cl_sJ, g_ln_sJ, g_I_sJ, g_J_sJ, g_R_sJ, g_eI_sJ, g_eJ_sJ, g_eR_sJ, g_tg_uJ, g_cl_uJ, g_ln_uJ, g_I_uJ, g_J_uJ, g_R_uJ, g_eI_uJ, g_eJ_uJ, g_eR_uJ, g_tg_sR, g_cl_sR, g_ln_sR, g_I_sR, g_J_sR, g_R_sR, g_eI_sR, g_eJ_sR, g_eR_sR, g_tg_uR, g_cl_uR, g_ln_uR, g_I_uR, g_J_uR, g_R_uR, g_eI_uR, g_eJ_uR, g_eR_uR, g_tg_new, g_cl_new, g_ln_new, g_I_new, g_J_new, g_R_new, g_eI_new, g_eJ_new, g_eR_new, g_tg_arr, g_cl_arr, g_ln_arr, g_I_arr, g_J_arr, g_R_arr, g_eI_arr, g_eJ_arr, g_eR_arr]
  · rw [va_up_ne _ _ hb]; exact cell_sR_ne σ _ _ _ hb
theorem put_1_29 (σ : ST) (a : Nat) (v : Option Nat) (h : st_tg σ a = some 1) : st_cell (st_sR σ 69 a v) = va_up (st_cell σ) a (some (.inr (1, (fl_1 σ a).set 29 (va_rf v)))) := by
  funext b
  by_cases hb : b = a
  · subst hb; rw [va_up_self, cell_1 (σ := st_sR σ 69 b v) (by rw [g_tg_sR]; exact h)]; simp [g_tg_sI, g_cl_sI, g_ln_sI, g_I_sI, g_J_sI, g_R_sI, g_eI_sI, g_eJ_sI, g_eR_sI, g_tg_uI, g_cl_uI, g_ln_uI, g_I_uI, g_J_uI, g_R_uI, g_eI_uI, g_eJ_uI, g_eR_uI, g_tg_sJ, g_cl_sJ, g_ln_sJ, g_I_sJ, g_J_sJ, g_R_sJ, g_eI_sJ, g_eJ_sJ, g_eR_sJ, g_tg_uJ, g_cl_uJ, g_ln_uJ, g_I_uJ, g_J_uJ, g_R_uJ, g_eI_uJ, g_eJ_uJ, g_eR_uJ, g_tg_sR, g_cl_sR, g_ln_sR, g_I_sR, g_J_sR, g_R_sR, g_eI_sR, g_eJ_sR, g_eR_sR, g_tg_uR, g_cl_uR, g_ln_uR, g_I_uR, g_J_uR, g_R_uR, g_eI_uR, g_eJ_uR, g_eR_uR, g_tg_new, g_cl_new, g_ln_new, g_I_new, g_J_new, g_R_new, g_eI_new, g_eJ_new, g_eR_new, g_tg_arr, g_cl_arr, g_ln_arr, g_I_arr, g_J_arr, g_R_arr, g_eI_arr, g_eJ_arr, g_eR_arr]
  · rw [va_up_ne _ _ hb]; exact cell_sR_ne σ _ _ _ hb
theorem put_1_30 (σ : ST) (a : Nat) (v : Option Nat) (h : st_tg σ a = some 1) : st_cell (st_sR σ 70 a v) = va_up (st_cell σ) a (some (.inr (1, (fl_1 σ a).set 30 (va_rf v)))) := by
  funext b
  by_cases hb : b = a
  · subst hb; rw [va_up_self, cell_1 (σ := st_sR σ 70 b v) (by rw [g_tg_sR]; exact h)]; simp [g_tg_sI, g_cl_sI, g_ln_sI, g_I_sI, g_J_sI, g_R_sI, g_eI_sI, g_eJ_sI, g_eR_sI, g_tg_uI, g_cl_uI, g_ln_uI, g_I_uI, g_J_uI, g_R_uI, g_eI_uI, g_eJ_uI, g_eR_uI, g_tg_sJ, g_cl_sJ, g_ln_sJ, g_I_sJ, g_J_sJ, g_R_sJ, g_eI_sJ, g_eJ_sJ, g_eR_sJ, g_tg_uJ, g_cl_uJ, g_ln_uJ, g_I_uJ, g_J_uJ, g_R_uJ, g_eI_uJ, g_eJ_uJ, g_eR_uJ, g_tg_sR, g_cl_sR, g_ln_sR, g_I_sR, g_J_sR, g_R_sR, g_eI_sR, g_eJ_sR, g_eR_sR, g_tg_uR, g_cl_uR, g_ln_uR, g_I_uR, g_J_uR, g_R_uR, g_eI_uR, g_eJ_uR, g_eR_uR, g_tg_new, g_cl_new, g_ln_new, g_I_new, g_J_new, g_R_new, g_eI_new, g_eJ_new, g_eR_new, g_tg_arr, g_cl_arr, g_ln_arr, g_I_arr, g_J_arr, g_R_arr, g_eI_arr, g_eJ_arr, g_eR_arr]
  · rw [va_up_ne _ _ hb]; exact cell_sR_ne σ _ _ _ hb
theorem put_1_31 (σ : ST) (a : Nat) (v : Option Nat) (h : st_tg σ a = some 1) : st_cell (st_sR σ 71 a v) = va_up (st_cell σ) a (some (.inr (1, (fl_1 σ a).set 31 (va_rf v)))) := by
  funext b
  by_cases hb : b = a
  · subst hb; rw [va_up_self, cell_1 (σ := st_sR σ 71 b v) (by rw [g_tg_sR]; exact h)]; simp [g_tg_sI, g_cl_sI, g_ln_sI, g_I_sI, g_J_sI, g_R_sI, g_eI_sI, g_eJ_sI, g_eR_sI, g_tg_uI, g_cl_uI, g_ln_uI, g_I_uI, g_J_uI, g_R_uI, g_eI_uI, g_eJ_uI, g_eR_uI, g_tg_sJ, g_cl_sJ, g_ln_sJ, g_I_sJ, g_J_sJ, g_R_sJ, g_eI_sJ, g_eJ_sJ, g_eR_sJ, g_tg_uJ, g_cl_uJ, g_ln_uJ, g_I_uJ, g_J_uJ, g_R_uJ, g_eI_uJ, g_eJ_uJ, g_eR_uJ, g_tg_sR, g_cl_sR, g_ln_sR, g_I_sR, g_J_sR, g_R_sR, g_eI_sR, g_eJ_sR, g_eR_sR, g_tg_uR, g_cl_uR, g_ln_uR, g_I_uR, g_J_uR, g_R_uR, g_eI_uR, g_eJ_uR, g_eR_uR, g_tg_new, g_cl_new, g_ln_new, g_I_new, g_J_new, g_R_new, g_eI_new, g_eJ_new, g_eR_new, g_tg_arr, g_cl_arr, g_ln_arr, g_I_arr, g_J_arr, g_R_arr, g_eI_arr, g_eJ_arr, g_eR_arr]
  · rw [va_up_ne _ _ hb]; exact cell_sR_ne σ _ _ _ hb
abbrev df_1 : List Value := [.int 0, va_rf none, va_rf none, va_rf none, va_rf none, va_rf none, va_rf none, va_rf none, va_rf none, va_rf none, va_rf none, va_rf none, va_rf none, va_rf none, va_rf none, va_rf none, va_rf none, va_rf none, va_rf none, va_rf none, .int 0, .int 0, va_rf none, va_rf none, va_rf none, va_rf none, va_rf none, .int 0, va_rf none, va_rf none, va_rf none, va_rf none]
theorem new_1 (σ : ST) (q : Nat) (h : st_tg σ q = none) : st_cell (st_new σ q 1) = va_up (st_cell σ) q (some (.inr (1, df_1))) := by
  funext b
  by_cases hb : b = q
  · subst hb; rw [va_up_self, cell_1 (σ := st_new σ b 1) (by rw [g_tg_new, if_pos rfl])]; simp [g_tg_sI, g_cl_sI, g_ln_sI, g_I_sI, g_J_sI, g_R_sI, g_eI_sI, g_eJ_sI, g_eR_sI, g_tg_uI, g_cl_uI, g_ln_uI, g_I_uI, g_J_uI, g_R_uI, g_eI_uI, g_eJ_uI, g_eR_uI, g_tg_sJ, g_cl_sJ, g_ln_sJ, g_I_sJ, g_J_sJ, g_R_sJ, g_eI_sJ, g_eJ_sJ, g_eR_sJ, g_tg_uJ, g_cl_uJ, g_ln_uJ, g_I_uJ, g_J_uJ, g_R_uJ, g_eI_uJ, g_eJ_uJ, g_eR_uJ, g_tg_sR, g_cl_sR, g_ln_sR, g_I_sR, g_J_sR, g_R_sR, g_eI_sR, g_eJ_sR, g_eR_sR, g_tg_uR, g_cl_uR, g_ln_uR, g_I_uR, g_J_uR, g_R_uR, g_eI_uR, g_eJ_uR, g_eR_uR, g_tg_new, g_cl_new, g_ln_new, g_I_new, g_J_new, g_R_new, g_eI_new, g_eJ_new, g_eR_new, g_tg_arr, g_cl_arr, g_ln_arr, g_I_arr, g_J_arr, g_R_arr, g_eI_arr, g_eJ_arr, g_eR_arr]
  · rw [va_up_ne _ _ hb]; exact cell_new_ne σ _ _ hb
theorem put_2_0 (σ : ST) (a : Nat) (v : Option Nat) (h : st_tg σ a = some 2) : st_cell (st_sR σ 80 a v) = va_up (st_cell σ) a (some (.inr (2, (fl_2 σ a).set 0 (va_rf v)))) := by
  funext b
  by_cases hb : b = a
  · subst hb; rw [va_up_self, cell_2 (σ := st_sR σ 80 b v) (by rw [g_tg_sR]; exact h)]; simp [g_tg_sI, g_cl_sI, g_ln_sI, g_I_sI, g_J_sI, g_R_sI, g_eI_sI, g_eJ_sI, g_eR_sI, g_tg_uI, g_cl_uI, g_ln_uI, g_I_uI, g_J_uI, g_R_uI, g_eI_uI, g_eJ_uI, g_eR_uI, g_tg_sJ, g_cl_sJ, g_ln_sJ, g_I_sJ, g_J_sJ, g_R_sJ, g_eI_sJ, g_eJ_sJ, g_eR_sJ, g_tg_uJ, g_cl_uJ, g_ln_uJ, g_I_uJ, g_J_uJ, g_R_uJ, g_eI_uJ, g_eJ_uJ, g_eR_uJ, g_tg_sR, g_cl_sR, g_ln_sR, g_I_sR, g_J_sR, g_R_sR, g_eI_sR, g_eJ_sR, g_eR_sR, g_tg_uR, g_cl_uR, g_ln_uR, g_I_uR, g_J_uR, g_R_uR, g_eI_uR, g_eJ_uR, g_eR_uR, g_tg_new, g_cl_new, g_ln_new, g_I_new, g_J_new, g_R_new, g_eI_new, g_eJ_new, g_eR_new, g_tg_arr, g_cl_arr, g_ln_arr, g_I_arr, g_J_arr, g_R_arr, g_eI_arr, g_eJ_arr, g_eR_arr]
  · rw [va_up_ne _ _ hb]; exact cell_sR_ne σ _ _ _ hb
theorem put_2_1 (σ : ST) (a : Nat) (v : Int64) (h : st_tg σ a = some 2) : st_cell (st_sJ σ 81 a v) = va_up (st_cell σ) a (some (.inr (2, (fl_2 σ a).set 1 (.long v)))) := by
  funext b
  by_cases hb : b = a
  · subst hb; rw [va_up_self, cell_2 (σ := st_sJ σ 81 b v) (by rw [g_tg_sJ]; exact h)]; simp [g_tg_sI, g_cl_sI, g_ln_sI, g_I_sI, g_J_sI, g_R_sI, g_eI_sI, g_eJ_sI, g_eR_sI, g_tg_uI, g_cl_uI, g_ln_uI, g_I_uI, g_J_uI, g_R_uI, g_eI_uI, g_eJ_uI, g_eR_uI, g_tg_sJ, g_cl_sJ, g_ln_sJ, g_I_sJ, g_J_sJ, g_R_sJ, g_eI_sJ, g_eJ_sJ, g_eR_sJ, g_tg_uJ, g_cl_uJ, g_ln_uJ, g_I_uJ, g_J_uJ, g_R_uJ, g_eI_uJ, g_eJ_uJ, g_eR_uJ, g_tg_sR, g_cl_sR, g_ln_sR, g_I_sR, g_J_sR, g_R_sR, g_eI_sR, g_eJ_sR, g_eR_sR, g_tg_uR, g_cl_uR, g_ln_uR, g_I_uR, g_J_uR, g_R_uR, g_eI_uR, g_eJ_uR, g_eR_uR, g_tg_new, g_cl_new, g_ln_new, g_I_new, g_J_new, g_R_new, g_eI_new, g_eJ_new, g_eR_new, g_tg_arr, g_cl_arr, g_ln_arr, g_I_arr, g_J_arr, g_R_arr, g_eI_arr, g_eJ_arr, g_eR_arr]
  · rw [va_up_ne _ _ hb]; exact cell_sJ_ne σ _ _ _ hb
theorem put_2_2 (σ : ST) (a : Nat) (v : Int32) (h : st_tg σ a = some 2) : st_cell (st_sI σ 82 a v) = va_up (st_cell σ) a (some (.inr (2, (fl_2 σ a).set 2 (.int v)))) := by
  funext b
  by_cases hb : b = a
  · subst hb; rw [va_up_self, cell_2 (σ := st_sI σ 82 b v) (by rw [g_tg_sI]; exact h)]; simp [g_tg_sI, g_cl_sI, g_ln_sI, g_I_sI, g_J_sI, g_R_sI, g_eI_sI, g_eJ_sI, g_eR_sI, g_tg_uI, g_cl_uI, g_ln_uI, g_I_uI, g_J_uI, g_R_uI, g_eI_uI, g_eJ_uI, g_eR_uI, g_tg_sJ, g_cl_sJ, g_ln_sJ, g_I_sJ, g_J_sJ, g_R_sJ, g_eI_sJ, g_eJ_sJ, g_eR_sJ, g_tg_uJ, g_cl_uJ, g_ln_uJ, g_I_uJ, g_J_uJ, g_R_uJ, g_eI_uJ, g_eJ_uJ, g_eR_uJ, g_tg_sR, g_cl_sR, g_ln_sR, g_I_sR, g_J_sR, g_R_sR, g_eI_sR, g_eJ_sR, g_eR_sR, g_tg_uR, g_cl_uR, g_ln_uR, g_I_uR, g_J_uR, g_R_uR, g_eI_uR, g_eJ_uR, g_eR_uR, g_tg_new, g_cl_new, g_ln_new, g_I_new, g_J_new, g_R_new, g_eI_new, g_eJ_new, g_eR_new, g_tg_arr, g_cl_arr, g_ln_arr, g_I_arr, g_J_arr, g_R_arr, g_eI_arr, g_eJ_arr, g_eR_arr]
  · rw [va_up_ne _ _ hb]; exact cell_sI_ne σ _ _ _ hb
abbrev df_2 : List Value := [va_rf none, .long 0, .int 0]
theorem new_2 (σ : ST) (q : Nat) (h : st_tg σ q = none) : st_cell (st_new σ q 2) = va_up (st_cell σ) q (some (.inr (2, df_2))) := by
  funext b
  by_cases hb : b = q
  · subst hb; rw [va_up_self, cell_2 (σ := st_new σ b 2) (by rw [g_tg_new, if_pos rfl])]; simp [g_tg_sI, g_cl_sI, g_ln_sI, g_I_sI, g_J_sI, g_R_sI, g_eI_sI, g_eJ_sI, g_eR_sI, g_tg_uI, g_cl_uI, g_ln_uI, g_I_uI, g_J_uI, g_R_uI, g_eI_uI, g_eJ_uI, g_eR_uI, g_tg_sJ, g_cl_sJ, g_ln_sJ, g_I_sJ, g_J_sJ, g_R_sJ, g_eI_sJ, g_eJ_sJ, g_eR_sJ, g_tg_uJ, g_cl_uJ, g_ln_uJ, g_I_uJ, g_J_uJ, g_R_uJ, g_eI_uJ, g_eJ_uJ, g_eR_uJ, g_tg_sR, g_cl_sR, g_ln_sR, g_I_sR, g_J_sR, g_R_sR, g_eI_sR, g_eJ_sR, g_eR_sR, g_tg_uR, g_cl_uR, g_ln_uR, g_I_uR, g_J_uR, g_R_uR, g_eI_uR, g_eJ_uR, g_eR_uR, g_tg_new, g_cl_new, g_ln_new, g_I_new, g_J_new, g_R_new, g_eI_new, g_eJ_new, g_eR_new, g_tg_arr, g_cl_arr, g_ln_arr, g_I_arr, g_J_arr, g_R_arr, g_eI_arr, g_eJ_arr, g_eR_arr]
  · rw [va_up_ne _ _ hb]; exact cell_new_ne σ _ _ hb
theorem put_3_0 (σ : ST) (a : Nat) (v : Int64) (h : st_tg σ a = some 3) : st_cell (st_sJ σ 120 a v) = va_up (st_cell σ) a (some (.inr (3, (fl_3 σ a).set 0 (.long v)))) := by
  funext b
  by_cases hb : b = a
  · subst hb; rw [va_up_self, cell_3 (σ := st_sJ σ 120 b v) (by rw [g_tg_sJ]; exact h)]; simp [g_tg_sI, g_cl_sI, g_ln_sI, g_I_sI, g_J_sI, g_R_sI, g_eI_sI, g_eJ_sI, g_eR_sI, g_tg_uI, g_cl_uI, g_ln_uI, g_I_uI, g_J_uI, g_R_uI, g_eI_uI, g_eJ_uI, g_eR_uI, g_tg_sJ, g_cl_sJ, g_ln_sJ, g_I_sJ, g_J_sJ, g_R_sJ, g_eI_sJ, g_eJ_sJ, g_eR_sJ, g_tg_uJ, g_cl_uJ, g_ln_uJ, g_I_uJ, g_J_uJ, g_R_uJ, g_eI_uJ, g_eJ_uJ, g_eR_uJ, g_tg_sR, g_cl_sR, g_ln_sR, g_I_sR, g_J_sR, g_R_sR, g_eI_sR, g_eJ_sR, g_eR_sR, g_tg_uR, g_cl_uR, g_ln_uR, g_I_uR, g_J_uR, g_R_uR, g_eI_uR, g_eJ_uR, g_eR_uR, g_tg_new, g_cl_new, g_ln_new, g_I_new, g_J_new, g_R_new, g_eI_new, g_eJ_new, g_eR_new, g_tg_arr, g_cl_arr, g_ln_arr, g_I_arr, g_J_arr, g_R_arr, g_eI_arr, g_eJ_arr, g_eR_arr]
  · rw [va_up_ne _ _ hb]; exact cell_sJ_ne σ _ _ _ hb
abbrev df_3 : List Value := [.long 0]
theorem new_3 (σ : ST) (q : Nat) (h : st_tg σ q = none) : st_cell (st_new σ q 3) = va_up (st_cell σ) q (some (.inr (3, df_3))) := by
  funext b
  by_cases hb : b = q
  · subst hb; rw [va_up_self, cell_3 (σ := st_new σ b 3) (by rw [g_tg_new, if_pos rfl])]; simp [g_tg_sI, g_cl_sI, g_ln_sI, g_I_sI, g_J_sI, g_R_sI, g_eI_sI, g_eJ_sI, g_eR_sI, g_tg_uI, g_cl_uI, g_ln_uI, g_I_uI, g_J_uI, g_R_uI, g_eI_uI, g_eJ_uI, g_eR_uI, g_tg_sJ, g_cl_sJ, g_ln_sJ, g_I_sJ, g_J_sJ, g_R_sJ, g_eI_sJ, g_eJ_sJ, g_eR_sJ, g_tg_uJ, g_cl_uJ, g_ln_uJ, g_I_uJ, g_J_uJ, g_R_uJ, g_eI_uJ, g_eJ_uJ, g_eR_uJ, g_tg_sR, g_cl_sR, g_ln_sR, g_I_sR, g_J_sR, g_R_sR, g_eI_sR, g_eJ_sR, g_eR_sR, g_tg_uR, g_cl_uR, g_ln_uR, g_I_uR, g_J_uR, g_R_uR, g_eI_uR, g_eJ_uR, g_eR_uR, g_tg_new, g_cl_new, g_ln_new, g_I_new, g_J_new, g_R_new, g_eI_new, g_eJ_new, g_eR_new, g_tg_arr, g_cl_arr, g_ln_arr, g_I_arr, g_J_arr, g_R_arr, g_eI_arr, g_eJ_arr, g_eR_arr]
  · rw [va_up_ne _ _ hb]; exact cell_new_ne σ _ _ hb
theorem put_4_0 (σ : ST) (a : Nat) (v : Int32) (h : st_tg σ a = some 4) : st_cell (st_sI σ 160 a v) = va_up (st_cell σ) a (some (.inr (4, (fl_4 σ a).set 0 (.int v)))) := by
  funext b
  by_cases hb : b = a
  · subst hb; rw [va_up_self, cell_4 (σ := st_sI σ 160 b v) (by rw [g_tg_sI]; exact h)]; simp [g_tg_sI, g_cl_sI, g_ln_sI, g_I_sI, g_J_sI, g_R_sI, g_eI_sI, g_eJ_sI, g_eR_sI, g_tg_uI, g_cl_uI, g_ln_uI, g_I_uI, g_J_uI, g_R_uI, g_eI_uI, g_eJ_uI, g_eR_uI, g_tg_sJ, g_cl_sJ, g_ln_sJ, g_I_sJ, g_J_sJ, g_R_sJ, g_eI_sJ, g_eJ_sJ, g_eR_sJ, g_tg_uJ, g_cl_uJ, g_ln_uJ, g_I_uJ, g_J_uJ, g_R_uJ, g_eI_uJ, g_eJ_uJ, g_eR_uJ, g_tg_sR, g_cl_sR, g_ln_sR, g_I_sR, g_J_sR, g_R_sR, g_eI_sR, g_eJ_sR, g_eR_sR, g_tg_uR, g_cl_uR, g_ln_uR, g_I_uR, g_J_uR, g_R_uR, g_eI_uR, g_eJ_uR, g_eR_uR, g_tg_new, g_cl_new, g_ln_new, g_I_new, g_J_new, g_R_new, g_eI_new, g_eJ_new, g_eR_new, g_tg_arr, g_cl_arr, g_ln_arr, g_I_arr, g_J_arr, g_R_arr, g_eI_arr, g_eJ_arr, g_eR_arr]
  · rw [va_up_ne _ _ hb]; exact cell_sI_ne σ _ _ _ hb
theorem put_4_1 (σ : ST) (a : Nat) (v : Int64) (h : st_tg σ a = some 4) : st_cell (st_sJ σ 161 a v) = va_up (st_cell σ) a (some (.inr (4, (fl_4 σ a).set 1 (.long v)))) := by
  funext b
  by_cases hb : b = a
  · subst hb; rw [va_up_self, cell_4 (σ := st_sJ σ 161 b v) (by rw [g_tg_sJ]; exact h)]; simp [g_tg_sI, g_cl_sI, g_ln_sI, g_I_sI, g_J_sI, g_R_sI, g_eI_sI, g_eJ_sI, g_eR_sI, g_tg_uI, g_cl_uI, g_ln_uI, g_I_uI, g_J_uI, g_R_uI, g_eI_uI, g_eJ_uI, g_eR_uI, g_tg_sJ, g_cl_sJ, g_ln_sJ, g_I_sJ, g_J_sJ, g_R_sJ, g_eI_sJ, g_eJ_sJ, g_eR_sJ, g_tg_uJ, g_cl_uJ, g_ln_uJ, g_I_uJ, g_J_uJ, g_R_uJ, g_eI_uJ, g_eJ_uJ, g_eR_uJ, g_tg_sR, g_cl_sR, g_ln_sR, g_I_sR, g_J_sR, g_R_sR, g_eI_sR, g_eJ_sR, g_eR_sR, g_tg_uR, g_cl_uR, g_ln_uR, g_I_uR, g_J_uR, g_R_uR, g_eI_uR, g_eJ_uR, g_eR_uR, g_tg_new, g_cl_new, g_ln_new, g_I_new, g_J_new, g_R_new, g_eI_new, g_eJ_new, g_eR_new, g_tg_arr, g_cl_arr, g_ln_arr, g_I_arr, g_J_arr, g_R_arr, g_eI_arr, g_eJ_arr, g_eR_arr]
  · rw [va_up_ne _ _ hb]; exact cell_sJ_ne σ _ _ _ hb
theorem put_4_2 (σ : ST) (a : Nat) (v : Int64) (h : st_tg σ a = some 4) : st_cell (st_sJ σ 162 a v) = va_up (st_cell σ) a (some (.inr (4, (fl_4 σ a).set 2 (.long v)))) := by
  funext b
  by_cases hb : b = a
  · subst hb; rw [va_up_self, cell_4 (σ := st_sJ σ 162 b v) (by rw [g_tg_sJ]; exact h)]; simp [g_tg_sI, g_cl_sI, g_ln_sI, g_I_sI, g_J_sI, g_R_sI, g_eI_sI, g_eJ_sI, g_eR_sI, g_tg_uI, g_cl_uI, g_ln_uI, g_I_uI, g_J_uI, g_R_uI, g_eI_uI, g_eJ_uI, g_eR_uI, g_tg_sJ, g_cl_sJ, g_ln_sJ, g_I_sJ, g_J_sJ, g_R_sJ, g_eI_sJ, g_eJ_sJ, g_eR_sJ, g_tg_uJ, g_cl_uJ, g_ln_uJ, g_I_uJ, g_J_uJ, g_R_uJ, g_eI_uJ, g_eJ_uJ, g_eR_uJ, g_tg_sR, g_cl_sR, g_ln_sR, g_I_sR, g_J_sR, g_R_sR, g_eI_sR, g_eJ_sR, g_eR_sR, g_tg_uR, g_cl_uR, g_ln_uR, g_I_uR, g_J_uR, g_R_uR, g_eI_uR, g_eJ_uR, g_eR_uR, g_tg_new, g_cl_new, g_ln_new, g_I_new, g_J_new, g_R_new, g_eI_new, g_eJ_new, g_eR_new, g_tg_arr, g_cl_arr, g_ln_arr, g_I_arr, g_J_arr, g_R_arr, g_eI_arr, g_eJ_arr, g_eR_arr]
  · rw [va_up_ne _ _ hb]; exact cell_sJ_ne σ _ _ _ hb
theorem put_4_3 (σ : ST) (a : Nat) (v : Int32) (h : st_tg σ a = some 4) : st_cell (st_sI σ 163 a v) = va_up (st_cell σ) a (some (.inr (4, (fl_4 σ a).set 3 (.int v)))) := by
  funext b
  by_cases hb : b = a
  · subst hb; rw [va_up_self, cell_4 (σ := st_sI σ 163 b v) (by rw [g_tg_sI]; exact h)]; simp [g_tg_sI, g_cl_sI, g_ln_sI, g_I_sI, g_J_sI, g_R_sI, g_eI_sI, g_eJ_sI, g_eR_sI, g_tg_uI, g_cl_uI, g_ln_uI, g_I_uI, g_J_uI, g_R_uI, g_eI_uI, g_eJ_uI, g_eR_uI, g_tg_sJ, g_cl_sJ, g_ln_sJ, g_I_sJ, g_J_sJ, g_R_sJ, g_eI_sJ, g_eJ_sJ, g_eR_sJ, g_tg_uJ, g_cl_uJ, g_ln_uJ, g_I_uJ, g_J_uJ, g_R_uJ, g_eI_uJ, g_eJ_uJ, g_eR_uJ, g_tg_sR, g_cl_sR, g_ln_sR, g_I_sR, g_J_sR, g_R_sR, g_eI_sR, g_eJ_sR, g_eR_sR, g_tg_uR, g_cl_uR, g_ln_uR, g_I_uR, g_J_uR, g_R_uR, g_eI_uR, g_eJ_uR, g_eR_uR, g_tg_new, g_cl_new, g_ln_new, g_I_new, g_J_new, g_R_new, g_eI_new, g_eJ_new, g_eR_new, g_tg_arr, g_cl_arr, g_ln_arr, g_I_arr, g_J_arr, g_R_arr, g_eI_arr, g_eJ_arr, g_eR_arr]
  · rw [va_up_ne _ _ hb]; exact cell_sI_ne σ _ _ _ hb
theorem put_4_4 (σ : ST) (a : Nat) (v : Int32) (h : st_tg σ a = some 4) : st_cell (st_sI σ 164 a v) = va_up (st_cell σ) a (some (.inr (4, (fl_4 σ a).set 4 (.int v)))) := by
  funext b
  by_cases hb : b = a
  · subst hb; rw [va_up_self, cell_4 (σ := st_sI σ 164 b v) (by rw [g_tg_sI]; exact h)]; simp [g_tg_sI, g_cl_sI, g_ln_sI, g_I_sI, g_J_sI, g_R_sI, g_eI_sI, g_eJ_sI, g_eR_sI, g_tg_uI, g_cl_uI, g_ln_uI, g_I_uI, g_J_uI, g_R_uI, g_eI_uI, g_eJ_uI, g_eR_uI, g_tg_sJ, g_cl_sJ, g_ln_sJ, g_I_sJ, g_J_sJ, g_R_sJ, g_eI_sJ, g_eJ_sJ, g_eR_sJ, g_tg_uJ, g_cl_uJ, g_ln_uJ, g_I_uJ, g_J_uJ, g_R_uJ, g_eI_uJ, g_eJ_uJ, g_eR_uJ, g_tg_sR, g_cl_sR, g_ln_sR, g_I_sR, g_J_sR, g_R_sR, g_eI_sR, g_eJ_sR, g_eR_sR, g_tg_uR, g_cl_uR, g_ln_uR, g_I_uR, g_J_uR, g_R_uR, g_eI_uR, g_eJ_uR, g_eR_uR, g_tg_new, g_cl_new, g_ln_new, g_I_new, g_J_new, g_R_new, g_eI_new, g_eJ_new, g_eR_new, g_tg_arr, g_cl_arr, g_ln_arr, g_I_arr, g_J_arr, g_R_arr, g_eI_arr, g_eJ_arr, g_eR_arr]
  · rw [va_up_ne _ _ hb]; exact cell_sI_ne σ _ _ _ hb
theorem put_4_5 (σ : ST) (a : Nat) (v : Int32) (h : st_tg σ a = some 4) : st_cell (st_sI σ 165 a v) = va_up (st_cell σ) a (some (.inr (4, (fl_4 σ a).set 5 (.int v)))) := by
  funext b
  by_cases hb : b = a
  · subst hb; rw [va_up_self, cell_4 (σ := st_sI σ 165 b v) (by rw [g_tg_sI]; exact h)]; simp [g_tg_sI, g_cl_sI, g_ln_sI, g_I_sI, g_J_sI, g_R_sI, g_eI_sI, g_eJ_sI, g_eR_sI, g_tg_uI, g_cl_uI, g_ln_uI, g_I_uI, g_J_uI, g_R_uI, g_eI_uI, g_eJ_uI, g_eR_uI, g_tg_sJ, g_cl_sJ, g_ln_sJ, g_I_sJ, g_J_sJ, g_R_sJ, g_eI_sJ, g_eJ_sJ, g_eR_sJ, g_tg_uJ, g_cl_uJ, g_ln_uJ, g_I_uJ, g_J_uJ, g_R_uJ, g_eI_uJ, g_eJ_uJ, g_eR_uJ, g_tg_sR, g_cl_sR, g_ln_sR, g_I_sR, g_J_sR, g_R_sR, g_eI_sR, g_eJ_sR, g_eR_sR, g_tg_uR, g_cl_uR, g_ln_uR, g_I_uR, g_J_uR, g_R_uR, g_eI_uR, g_eJ_uR, g_eR_uR, g_tg_new, g_cl_new, g_ln_new, g_I_new, g_J_new, g_R_new, g_eI_new, g_eJ_new, g_eR_new, g_tg_arr, g_cl_arr, g_ln_arr, g_I_arr, g_J_arr, g_R_arr, g_eI_arr, g_eJ_arr, g_eR_arr]
  · rw [va_up_ne _ _ hb]; exact cell_sI_ne σ _ _ _ hb
theorem put_4_6 (σ : ST) (a : Nat) (v : Int64) (h : st_tg σ a = some 4) : st_cell (st_sJ σ 166 a v) = va_up (st_cell σ) a (some (.inr (4, (fl_4 σ a).set 6 (.long v)))) := by
  funext b
  by_cases hb : b = a
  · subst hb; rw [va_up_self, cell_4 (σ := st_sJ σ 166 b v) (by rw [g_tg_sJ]; exact h)]; simp [g_tg_sI, g_cl_sI, g_ln_sI, g_I_sI, g_J_sI, g_R_sI, g_eI_sI, g_eJ_sI, g_eR_sI, g_tg_uI, g_cl_uI, g_ln_uI, g_I_uI, g_J_uI, g_R_uI, g_eI_uI, g_eJ_uI, g_eR_uI, g_tg_sJ, g_cl_sJ, g_ln_sJ, g_I_sJ, g_J_sJ, g_R_sJ, g_eI_sJ, g_eJ_sJ, g_eR_sJ, g_tg_uJ, g_cl_uJ, g_ln_uJ, g_I_uJ, g_J_uJ, g_R_uJ, g_eI_uJ, g_eJ_uJ, g_eR_uJ, g_tg_sR, g_cl_sR, g_ln_sR, g_I_sR, g_J_sR, g_R_sR, g_eI_sR, g_eJ_sR, g_eR_sR, g_tg_uR, g_cl_uR, g_ln_uR, g_I_uR, g_J_uR, g_R_uR, g_eI_uR, g_eJ_uR, g_eR_uR, g_tg_new, g_cl_new, g_ln_new, g_I_new, g_J_new, g_R_new, g_eI_new, g_eJ_new, g_eR_new, g_tg_arr, g_cl_arr, g_ln_arr, g_I_arr, g_J_arr, g_R_arr, g_eI_arr, g_eJ_arr, g_eR_arr]
  · rw [va_up_ne _ _ hb]; exact cell_sJ_ne σ _ _ _ hb
theorem put_4_7 (σ : ST) (a : Nat) (v : Int64) (h : st_tg σ a = some 4) : st_cell (st_sJ σ 167 a v) = va_up (st_cell σ) a (some (.inr (4, (fl_4 σ a).set 7 (.long v)))) := by
  funext b
  by_cases hb : b = a
  · subst hb; rw [va_up_self, cell_4 (σ := st_sJ σ 167 b v) (by rw [g_tg_sJ]; exact h)]; simp [g_tg_sI, g_cl_sI, g_ln_sI, g_I_sI, g_J_sI, g_R_sI, g_eI_sI, g_eJ_sI, g_eR_sI, g_tg_uI, g_cl_uI, g_ln_uI, g_I_uI, g_J_uI, g_R_uI, g_eI_uI, g_eJ_uI, g_eR_uI, g_tg_sJ, g_cl_sJ, g_ln_sJ, g_I_sJ, g_J_sJ, g_R_sJ, g_eI_sJ, g_eJ_sJ, g_eR_sJ, g_tg_uJ, g_cl_uJ, g_ln_uJ, g_I_uJ, g_J_uJ, g_R_uJ, g_eI_uJ, g_eJ_uJ, g_eR_uJ, g_tg_sR, g_cl_sR, g_ln_sR, g_I_sR, g_J_sR, g_R_sR, g_eI_sR, g_eJ_sR, g_eR_sR, g_tg_uR, g_cl_uR, g_ln_uR, g_I_uR, g_J_uR, g_R_uR, g_eI_uR, g_eJ_uR, g_eR_uR, g_tg_new, g_cl_new, g_ln_new, g_I_new, g_J_new, g_R_new, g_eI_new, g_eJ_new, g_eR_new, g_tg_arr, g_cl_arr, g_ln_arr, g_I_arr, g_J_arr, g_R_arr, g_eI_arr, g_eJ_arr, g_eR_arr]
  · rw [va_up_ne _ _ hb]; exact cell_sJ_ne σ _ _ _ hb
theorem put_4_8 (σ : ST) (a : Nat) (v : Option Nat) (h : st_tg σ a = some 4) : st_cell (st_sR σ 168 a v) = va_up (st_cell σ) a (some (.inr (4, (fl_4 σ a).set 8 (va_rf v)))) := by
  funext b
  by_cases hb : b = a
  · subst hb; rw [va_up_self, cell_4 (σ := st_sR σ 168 b v) (by rw [g_tg_sR]; exact h)]; simp [g_tg_sI, g_cl_sI, g_ln_sI, g_I_sI, g_J_sI, g_R_sI, g_eI_sI, g_eJ_sI, g_eR_sI, g_tg_uI, g_cl_uI, g_ln_uI, g_I_uI, g_J_uI, g_R_uI, g_eI_uI, g_eJ_uI, g_eR_uI, g_tg_sJ, g_cl_sJ, g_ln_sJ, g_I_sJ, g_J_sJ, g_R_sJ, g_eI_sJ, g_eJ_sJ, g_eR_sJ, g_tg_uJ, g_cl_uJ, g_ln_uJ, g_I_uJ, g_J_uJ, g_R_uJ, g_eI_uJ, g_eJ_uJ, g_eR_uJ, g_tg_sR, g_cl_sR, g_ln_sR, g_I_sR, g_J_sR, g_R_sR, g_eI_sR, g_eJ_sR, g_eR_sR, g_tg_uR, g_cl_uR, g_ln_uR, g_I_uR, g_J_uR, g_R_uR, g_eI_uR, g_eJ_uR, g_eR_uR, g_tg_new, g_cl_new, g_ln_new, g_I_new, g_J_new, g_R_new, g_eI_new, g_eJ_new, g_eR_new, g_tg_arr, g_cl_arr, g_ln_arr, g_I_arr, g_J_arr, g_R_arr, g_eI_arr, g_eJ_arr, g_eR_arr]
  · rw [va_up_ne _ _ hb]; exact cell_sR_ne σ _ _ _ hb
abbrev df_4 : List Value := [.int 0, .long 0, .long 0, .int 0, .int 0, .int 0, .long 0, .long 0, va_rf none]
theorem new_4 (σ : ST) (q : Nat) (h : st_tg σ q = none) : st_cell (st_new σ q 4) = va_up (st_cell σ) q (some (.inr (4, df_4))) := by
  funext b
  by_cases hb : b = q
  · subst hb; rw [va_up_self, cell_4 (σ := st_new σ b 4) (by rw [g_tg_new, if_pos rfl])]; simp [g_tg_sI, g_cl_sI, g_ln_sI, g_I_sI, g_J_sI, g_R_sI, g_eI_sI, g_eJ_sI, g_eR_sI, g_tg_uI, g_cl_uI, g_ln_uI, g_I_uI, g_J_uI, g_R_uI, g_eI_uI, g_eJ_uI, g_eR_uI, g_tg_sJ, g_cl_sJ, g_ln_sJ, g_I_sJ, g_J_sJ, g_R_sJ, g_eI_sJ, g_eJ_sJ, g_eR_sJ, g_tg_uJ, g_cl_uJ, g_ln_uJ, g_I_uJ, g_J_uJ, g_R_uJ, g_eI_uJ, g_eJ_uJ, g_eR_uJ, g_tg_sR, g_cl_sR, g_ln_sR, g_I_sR, g_J_sR, g_R_sR, g_eI_sR, g_eJ_sR, g_eR_sR, g_tg_uR, g_cl_uR, g_ln_uR, g_I_uR, g_J_uR, g_R_uR, g_eI_uR, g_eJ_uR, g_eR_uR, g_tg_new, g_cl_new, g_ln_new, g_I_new, g_J_new, g_R_new, g_eI_new, g_eJ_new, g_eR_new, g_tg_arr, g_cl_arr, g_ln_arr, g_I_arr, g_J_arr, g_R_arr, g_eI_arr, g_eJ_arr, g_eR_arr]
  · rw [va_up_ne _ _ hb]; exact cell_new_ne σ _ _ hb
theorem put_5_0 (σ : ST) (a : Nat) (v : Int32) (h : st_tg σ a = some 5) : st_cell (st_sI σ 200 a v) = va_up (st_cell σ) a (some (.inr (5, (fl_5 σ a).set 0 (.int v)))) := by
  funext b
  by_cases hb : b = a
  · subst hb; rw [va_up_self, cell_5 (σ := st_sI σ 200 b v) (by rw [g_tg_sI]; exact h)]; simp [g_tg_sI, g_cl_sI, g_ln_sI, g_I_sI, g_J_sI, g_R_sI, g_eI_sI, g_eJ_sI, g_eR_sI, g_tg_uI, g_cl_uI, g_ln_uI, g_I_uI, g_J_uI, g_R_uI, g_eI_uI, g_eJ_uI, g_eR_uI, g_tg_sJ, g_cl_sJ, g_ln_sJ, g_I_sJ, g_J_sJ, g_R_sJ, g_eI_sJ, g_eJ_sJ, g_eR_sJ, g_tg_uJ, g_cl_uJ, g_ln_uJ, g_I_uJ, g_J_uJ, g_R_uJ, g_eI_uJ, g_eJ_uJ, g_eR_uJ, g_tg_sR, g_cl_sR, g_ln_sR, g_I_sR, g_J_sR, g_R_sR, g_eI_sR, g_eJ_sR, g_eR_sR, g_tg_uR, g_cl_uR, g_ln_uR, g_I_uR, g_J_uR, g_R_uR, g_eI_uR, g_eJ_uR, g_eR_uR, g_tg_new, g_cl_new, g_ln_new, g_I_new, g_J_new, g_R_new, g_eI_new, g_eJ_new, g_eR_new, g_tg_arr, g_cl_arr, g_ln_arr, g_I_arr, g_J_arr, g_R_arr, g_eI_arr, g_eJ_arr, g_eR_arr]
  · rw [va_up_ne _ _ hb]; exact cell_sI_ne σ _ _ _ hb
theorem put_5_1 (σ : ST) (a : Nat) (v : Option Nat) (h : st_tg σ a = some 5) : st_cell (st_sR σ 201 a v) = va_up (st_cell σ) a (some (.inr (5, (fl_5 σ a).set 1 (va_rf v)))) := by
  funext b
  by_cases hb : b = a
  · subst hb; rw [va_up_self, cell_5 (σ := st_sR σ 201 b v) (by rw [g_tg_sR]; exact h)]; simp [g_tg_sI, g_cl_sI, g_ln_sI, g_I_sI, g_J_sI, g_R_sI, g_eI_sI, g_eJ_sI, g_eR_sI, g_tg_uI, g_cl_uI, g_ln_uI, g_I_uI, g_J_uI, g_R_uI, g_eI_uI, g_eJ_uI, g_eR_uI, g_tg_sJ, g_cl_sJ, g_ln_sJ, g_I_sJ, g_J_sJ, g_R_sJ, g_eI_sJ, g_eJ_sJ, g_eR_sJ, g_tg_uJ, g_cl_uJ, g_ln_uJ, g_I_uJ, g_J_uJ, g_R_uJ, g_eI_uJ, g_eJ_uJ, g_eR_uJ, g_tg_sR, g_cl_sR, g_ln_sR, g_I_sR, g_J_sR, g_R_sR, g_eI_sR, g_eJ_sR, g_eR_sR, g_tg_uR, g_cl_uR, g_ln_uR, g_I_uR, g_J_uR, g_R_uR, g_eI_uR, g_eJ_uR, g_eR_uR, g_tg_new, g_cl_new, g_ln_new, g_I_new, g_J_new, g_R_new, g_eI_new, g_eJ_new, g_eR_new, g_tg_arr, g_cl_arr, g_ln_arr, g_I_arr, g_J_arr, g_R_arr, g_eI_arr, g_eJ_arr, g_eR_arr]
  · rw [va_up_ne _ _ hb]; exact cell_sR_ne σ _ _ _ hb
theorem put_5_2 (σ : ST) (a : Nat) (v : Int64) (h : st_tg σ a = some 5) : st_cell (st_sJ σ 202 a v) = va_up (st_cell σ) a (some (.inr (5, (fl_5 σ a).set 2 (.long v)))) := by
  funext b
  by_cases hb : b = a
  · subst hb; rw [va_up_self, cell_5 (σ := st_sJ σ 202 b v) (by rw [g_tg_sJ]; exact h)]; simp [g_tg_sI, g_cl_sI, g_ln_sI, g_I_sI, g_J_sI, g_R_sI, g_eI_sI, g_eJ_sI, g_eR_sI, g_tg_uI, g_cl_uI, g_ln_uI, g_I_uI, g_J_uI, g_R_uI, g_eI_uI, g_eJ_uI, g_eR_uI, g_tg_sJ, g_cl_sJ, g_ln_sJ, g_I_sJ, g_J_sJ, g_R_sJ, g_eI_sJ, g_eJ_sJ, g_eR_sJ, g_tg_uJ, g_cl_uJ, g_ln_uJ, g_I_uJ, g_J_uJ, g_R_uJ, g_eI_uJ, g_eJ_uJ, g_eR_uJ, g_tg_sR, g_cl_sR, g_ln_sR, g_I_sR, g_J_sR, g_R_sR, g_eI_sR, g_eJ_sR, g_eR_sR, g_tg_uR, g_cl_uR, g_ln_uR, g_I_uR, g_J_uR, g_R_uR, g_eI_uR, g_eJ_uR, g_eR_uR, g_tg_new, g_cl_new, g_ln_new, g_I_new, g_J_new, g_R_new, g_eI_new, g_eJ_new, g_eR_new, g_tg_arr, g_cl_arr, g_ln_arr, g_I_arr, g_J_arr, g_R_arr, g_eI_arr, g_eJ_arr, g_eR_arr]
  · rw [va_up_ne _ _ hb]; exact cell_sJ_ne σ _ _ _ hb
theorem put_5_3 (σ : ST) (a : Nat) (v : Int64) (h : st_tg σ a = some 5) : st_cell (st_sJ σ 203 a v) = va_up (st_cell σ) a (some (.inr (5, (fl_5 σ a).set 3 (.long v)))) := by
  funext b
  by_cases hb : b = a
  · subst hb; rw [va_up_self, cell_5 (σ := st_sJ σ 203 b v) (by rw [g_tg_sJ]; exact h)]; simp [g_tg_sI, g_cl_sI, g_ln_sI, g_I_sI, g_J_sI, g_R_sI, g_eI_sI, g_eJ_sI, g_eR_sI, g_tg_uI, g_cl_uI, g_ln_uI, g_I_uI, g_J_uI, g_R_uI, g_eI_uI, g_eJ_uI, g_eR_uI, g_tg_sJ, g_cl_sJ, g_ln_sJ, g_I_sJ, g_J_sJ, g_R_sJ, g_eI_sJ, g_eJ_sJ, g_eR_sJ, g_tg_uJ, g_cl_uJ, g_ln_uJ, g_I_uJ, g_J_uJ, g_R_uJ, g_eI_uJ, g_eJ_uJ, g_eR_uJ, g_tg_sR, g_cl_sR, g_ln_sR, g_I_sR, g_J_sR, g_R_sR, g_eI_sR, g_eJ_sR, g_eR_sR, g_tg_uR, g_cl_uR, g_ln_uR, g_I_uR, g_J_uR, g_R_uR, g_eI_uR, g_eJ_uR, g_eR_uR, g_tg_new, g_cl_new, g_ln_new, g_I_new, g_J_new, g_R_new, g_eI_new, g_eJ_new, g_eR_new, g_tg_arr, g_cl_arr, g_ln_arr, g_I_arr, g_J_arr, g_R_arr, g_eI_arr, g_eJ_arr, g_eR_arr]
  · rw [va_up_ne _ _ hb]; exact cell_sJ_ne σ _ _ _ hb
theorem put_5_4 (σ : ST) (a : Nat) (v : Option Nat) (h : st_tg σ a = some 5) : st_cell (st_sR σ 204 a v) = va_up (st_cell σ) a (some (.inr (5, (fl_5 σ a).set 4 (va_rf v)))) := by
  funext b
  by_cases hb : b = a
  · subst hb; rw [va_up_self, cell_5 (σ := st_sR σ 204 b v) (by rw [g_tg_sR]; exact h)]; simp [g_tg_sI, g_cl_sI, g_ln_sI, g_I_sI, g_J_sI, g_R_sI, g_eI_sI, g_eJ_sI, g_eR_sI, g_tg_uI, g_cl_uI, g_ln_uI, g_I_uI, g_J_uI, g_R_uI, g_eI_uI, g_eJ_uI, g_eR_uI, g_tg_sJ, g_cl_sJ, g_ln_sJ, g_I_sJ, g_J_sJ, g_R_sJ, g_eI_sJ, g_eJ_sJ, g_eR_sJ, g_tg_uJ, g_cl_uJ, g_ln_uJ, g_I_uJ, g_J_uJ, g_R_uJ, g_eI_uJ, g_eJ_uJ, g_eR_uJ, g_tg_sR, g_cl_sR, g_ln_sR, g_I_sR, g_J_sR, g_R_sR, g_eI_sR, g_eJ_sR, g_eR_sR, g_tg_uR, g_cl_uR, g_ln_uR, g_I_uR, g_J_uR, g_R_uR, g_eI_uR, g_eJ_uR, g_eR_uR, g_tg_new, g_cl_new, g_ln_new, g_I_new, g_J_new, g_R_new, g_eI_new, g_eJ_new, g_eR_new, g_tg_arr, g_cl_arr, g_ln_arr, g_I_arr, g_J_arr, g_R_arr, g_eI_arr, g_eJ_arr, g_eR_arr]
  · rw [va_up_ne _ _ hb]; exact cell_sR_ne σ _ _ _ hb
theorem put_5_5 (σ : ST) (a : Nat) (v : Int32) (h : st_tg σ a = some 5) : st_cell (st_sI σ 205 a v) = va_up (st_cell σ) a (some (.inr (5, (fl_5 σ a).set 5 (.int v)))) := by
  funext b
  by_cases hb : b = a
  · subst hb; rw [va_up_self, cell_5 (σ := st_sI σ 205 b v) (by rw [g_tg_sI]; exact h)]; simp [g_tg_sI, g_cl_sI, g_ln_sI, g_I_sI, g_J_sI, g_R_sI, g_eI_sI, g_eJ_sI, g_eR_sI, g_tg_uI, g_cl_uI, g_ln_uI, g_I_uI, g_J_uI, g_R_uI, g_eI_uI, g_eJ_uI, g_eR_uI, g_tg_sJ, g_cl_sJ, g_ln_sJ, g_I_sJ, g_J_sJ, g_R_sJ, g_eI_sJ, g_eJ_sJ, g_eR_sJ, g_tg_uJ, g_cl_uJ, g_ln_uJ, g_I_uJ, g_J_uJ, g_R_uJ, g_eI_uJ, g_eJ_uJ, g_eR_uJ, g_tg_sR, g_cl_sR, g_ln_sR, g_I_sR, g_J_sR, g_R_sR, g_eI_sR, g_eJ_sR, g_eR_sR, g_tg_uR, g_cl_uR, g_ln_uR, g_I_uR, g_J_uR, g_R_uR, g_eI_uR, g_eJ_uR, g_eR_uR, g_tg_new, g_cl_new, g_ln_new, g_I_new, g_J_new, g_R_new, g_eI_new, g_eJ_new, g_eR_new, g_tg_arr, g_cl_arr, g_ln_arr, g_I_arr, g_J_arr, g_R_arr, g_eI_arr, g_eJ_arr, g_eR_arr]
  · rw [va_up_ne _ _ hb]; exact cell_sI_ne σ _ _ _ hb
theorem put_5_6 (σ : ST) (a : Nat) (v : Int32) (h : st_tg σ a = some 5) : st_cell (st_sI σ 206 a v) = va_up (st_cell σ) a (some (.inr (5, (fl_5 σ a).set 6 (.int v)))) := by
  funext b
  by_cases hb : b = a
  · subst hb; rw [va_up_self, cell_5 (σ := st_sI σ 206 b v) (by rw [g_tg_sI]; exact h)]; simp [g_tg_sI, g_cl_sI, g_ln_sI, g_I_sI, g_J_sI, g_R_sI, g_eI_sI, g_eJ_sI, g_eR_sI, g_tg_uI, g_cl_uI, g_ln_uI, g_I_uI, g_J_uI, g_R_uI, g_eI_uI, g_eJ_uI, g_eR_uI, g_tg_sJ, g_cl_sJ, g_ln_sJ, g_I_sJ, g_J_sJ, g_R_sJ, g_eI_sJ, g_eJ_sJ, g_eR_sJ, g_tg_uJ, g_cl_uJ, g_ln_uJ, g_I_uJ, g_J_uJ, g_R_uJ, g_eI_uJ, g_eJ_uJ, g_eR_uJ, g_tg_sR, g_cl_sR, g_ln_sR, g_I_sR, g_J_sR, g_R_sR, g_eI_sR, g_eJ_sR, g_eR_sR, g_tg_uR, g_cl_uR, g_ln_uR, g_I_uR, g_J_uR, g_R_uR, g_eI_uR, g_eJ_uR, g_eR_uR, g_tg_new, g_cl_new, g_ln_new, g_I_new, g_J_new, g_R_new, g_eI_new, g_eJ_new, g_eR_new, g_tg_arr, g_cl_arr, g_ln_arr, g_I_arr, g_J_arr, g_R_arr, g_eI_arr, g_eJ_arr, g_eR_arr]
  · rw [va_up_ne _ _ hb]; exact cell_sI_ne σ _ _ _ hb
theorem put_5_7 (σ : ST) (a : Nat) (v : Int64) (h : st_tg σ a = some 5) : st_cell (st_sJ σ 207 a v) = va_up (st_cell σ) a (some (.inr (5, (fl_5 σ a).set 7 (.long v)))) := by
  funext b
  by_cases hb : b = a
  · subst hb; rw [va_up_self, cell_5 (σ := st_sJ σ 207 b v) (by rw [g_tg_sJ]; exact h)]; simp [g_tg_sI, g_cl_sI, g_ln_sI, g_I_sI, g_J_sI, g_R_sI, g_eI_sI, g_eJ_sI, g_eR_sI, g_tg_uI, g_cl_uI, g_ln_uI, g_I_uI, g_J_uI, g_R_uI, g_eI_uI, g_eJ_uI, g_eR_uI, g_tg_sJ, g_cl_sJ, g_ln_sJ, g_I_sJ, g_J_sJ, g_R_sJ, g_eI_sJ, g_eJ_sJ, g_eR_sJ, g_tg_uJ, g_cl_uJ, g_ln_uJ, g_I_uJ, g_J_uJ, g_R_uJ, g_eI_uJ, g_eJ_uJ, g_eR_uJ, g_tg_sR, g_cl_sR, g_ln_sR, g_I_sR, g_J_sR, g_R_sR, g_eI_sR, g_eJ_sR, g_eR_sR, g_tg_uR, g_cl_uR, g_ln_uR, g_I_uR, g_J_uR, g_R_uR, g_eI_uR, g_eJ_uR, g_eR_uR, g_tg_new, g_cl_new, g_ln_new, g_I_new, g_J_new, g_R_new, g_eI_new, g_eJ_new, g_eR_new, g_tg_arr, g_cl_arr, g_ln_arr, g_I_arr, g_J_arr, g_R_arr, g_eI_arr, g_eJ_arr, g_eR_arr]
  · rw [va_up_ne _ _ hb]; exact cell_sJ_ne σ _ _ _ hb
theorem put_5_8 (σ : ST) (a : Nat) (v : Option Nat) (h : st_tg σ a = some 5) : st_cell (st_sR σ 208 a v) = va_up (st_cell σ) a (some (.inr (5, (fl_5 σ a).set 8 (va_rf v)))) := by
  funext b
  by_cases hb : b = a
  · subst hb; rw [va_up_self, cell_5 (σ := st_sR σ 208 b v) (by rw [g_tg_sR]; exact h)]; simp [g_tg_sI, g_cl_sI, g_ln_sI, g_I_sI, g_J_sI, g_R_sI, g_eI_sI, g_eJ_sI, g_eR_sI, g_tg_uI, g_cl_uI, g_ln_uI, g_I_uI, g_J_uI, g_R_uI, g_eI_uI, g_eJ_uI, g_eR_uI, g_tg_sJ, g_cl_sJ, g_ln_sJ, g_I_sJ, g_J_sJ, g_R_sJ, g_eI_sJ, g_eJ_sJ, g_eR_sJ, g_tg_uJ, g_cl_uJ, g_ln_uJ, g_I_uJ, g_J_uJ, g_R_uJ, g_eI_uJ, g_eJ_uJ, g_eR_uJ, g_tg_sR, g_cl_sR, g_ln_sR, g_I_sR, g_J_sR, g_R_sR, g_eI_sR, g_eJ_sR, g_eR_sR, g_tg_uR, g_cl_uR, g_ln_uR, g_I_uR, g_J_uR, g_R_uR, g_eI_uR, g_eJ_uR, g_eR_uR, g_tg_new, g_cl_new, g_ln_new, g_I_new, g_J_new, g_R_new, g_eI_new, g_eJ_new, g_eR_new, g_tg_arr, g_cl_arr, g_ln_arr, g_I_arr, g_J_arr, g_R_arr, g_eI_arr, g_eJ_arr, g_eR_arr]
  · rw [va_up_ne _ _ hb]; exact cell_sR_ne σ _ _ _ hb
theorem put_5_9 (σ : ST) (a : Nat) (v : Option Nat) (h : st_tg σ a = some 5) : st_cell (st_sR σ 209 a v) = va_up (st_cell σ) a (some (.inr (5, (fl_5 σ a).set 9 (va_rf v)))) := by
  funext b
  by_cases hb : b = a
  · subst hb; rw [va_up_self, cell_5 (σ := st_sR σ 209 b v) (by rw [g_tg_sR]; exact h)]; simp [g_tg_sI, g_cl_sI, g_ln_sI, g_I_sI, g_J_sI, g_R_sI, g_eI_sI, g_eJ_sI, g_eR_sI, g_tg_uI, g_cl_uI, g_ln_uI, g_I_uI, g_J_uI, g_R_uI, g_eI_uI, g_eJ_uI, g_eR_uI, g_tg_sJ, g_cl_sJ, g_ln_sJ, g_I_sJ, g_J_sJ, g_R_sJ, g_eI_sJ, g_eJ_sJ, g_eR_sJ, g_tg_uJ, g_cl_uJ, g_ln_uJ, g_I_uJ, g_J_uJ, g_R_uJ, g_eI_uJ, g_eJ_uJ, g_eR_uJ, g_tg_sR, g_cl_sR, g_ln_sR, g_I_sR, g_J_sR, g_R_sR, g_eI_sR, g_eJ_sR, g_eR_sR, g_tg_uR, g_cl_uR, g_ln_uR, g_I_uR, g_J_uR, g_R_uR, g_eI_uR, g_eJ_uR, g_eR_uR, g_tg_new, g_cl_new, g_ln_new, g_I_new, g_J_new, g_R_new, g_eI_new, g_eJ_new, g_eR_new, g_tg_arr, g_cl_arr, g_ln_arr, g_I_arr, g_J_arr, g_R_arr, g_eI_arr, g_eJ_arr, g_eR_arr]
  · rw [va_up_ne _ _ hb]; exact cell_sR_ne σ _ _ _ hb
theorem put_5_10 (σ : ST) (a : Nat) (v : Option Nat) (h : st_tg σ a = some 5) : st_cell (st_sR σ 210 a v) = va_up (st_cell σ) a (some (.inr (5, (fl_5 σ a).set 10 (va_rf v)))) := by
  funext b
  by_cases hb : b = a
  · subst hb; rw [va_up_self, cell_5 (σ := st_sR σ 210 b v) (by rw [g_tg_sR]; exact h)]; simp [g_tg_sI, g_cl_sI, g_ln_sI, g_I_sI, g_J_sI, g_R_sI, g_eI_sI, g_eJ_sI, g_eR_sI, g_tg_uI, g_cl_uI, g_ln_uI, g_I_uI, g_J_uI, g_R_uI, g_eI_uI, g_eJ_uI, g_eR_uI, g_tg_sJ, g_cl_sJ, g_ln_sJ, g_I_sJ, g_J_sJ, g_R_sJ, g_eI_sJ, g_eJ_sJ, g_eR_sJ, g_tg_uJ, g_cl_uJ, g_ln_uJ, g_I_uJ, g_J_uJ, g_R_uJ, g_eI_uJ, g_eJ_uJ, g_eR_uJ, g_tg_sR, g_cl_sR, g_ln_sR, g_I_sR, g_J_sR, g_R_sR, g_eI_sR, g_eJ_sR, g_eR_sR, g_tg_uR, g_cl_uR, g_ln_uR, g_I_uR, g_J_uR, g_R_uR, g_eI_uR, g_eJ_uR, g_eR_uR, g_tg_new, g_cl_new, g_ln_new, g_I_new, g_J_new, g_R_new, g_eI_new, g_eJ_new, g_eR_new, g_tg_arr, g_cl_arr, g_ln_arr, g_I_arr, g_J_arr, g_R_arr, g_eI_arr, g_eJ_arr, g_eR_arr]
  · rw [va_up_ne _ _ hb]; exact cell_sR_ne σ _ _ _ hb
abbrev df_5 : List Value := [.int 0, va_rf none, .long 0, .long 0, va_rf none, .int 0, .int 0, .long 0, va_rf none, va_rf none, va_rf none]
theorem new_5 (σ : ST) (q : Nat) (h : st_tg σ q = none) : st_cell (st_new σ q 5) = va_up (st_cell σ) q (some (.inr (5, df_5))) := by
  funext b
  by_cases hb : b = q
  · subst hb; rw [va_up_self, cell_5 (σ := st_new σ b 5) (by rw [g_tg_new, if_pos rfl])]; simp [g_tg_sI, g_cl_sI, g_ln_sI, g_I_sI, g_J_sI, g_R_sI, g_eI_sI, g_eJ_sI, g_eR_sI, g_tg_uI, g_cl_uI, g_ln_uI, g_I_uI, g_J_uI, g_R_uI, g_eI_uI, g_eJ_uI, g_eR_uI, g_tg_sJ, g_cl_sJ, g_ln_sJ, g_I_sJ, g_J_sJ, g_R_sJ, g_eI_sJ, g_eJ_sJ, g_eR_sJ, g_tg_uJ, g_cl_uJ, g_ln_uJ, g_I_uJ, g_J_uJ, g_R_uJ, g_eI_uJ, g_eJ_uJ, g_eR_uJ, g_tg_sR, g_cl_sR, g_ln_sR, g_I_sR, g_J_sR, g_R_sR, g_eI_sR, g_eJ_sR, g_eR_sR, g_tg_uR, g_cl_uR, g_ln_uR, g_I_uR, g_J_uR, g_R_uR, g_eI_uR, g_eJ_uR, g_eR_uR, g_tg_new, g_cl_new, g_ln_new, g_I_new, g_J_new, g_R_new, g_eI_new, g_eJ_new, g_eR_new, g_tg_arr, g_cl_arr, g_ln_arr, g_I_arr, g_J_arr, g_R_arr, g_eI_arr, g_eJ_arr, g_eR_arr]
  · rw [va_up_ne _ _ hb]; exact cell_new_ne σ _ _ hb
theorem put_6_0 (σ : ST) (a : Nat) (v : Int32) (h : st_tg σ a = some 6) : st_cell (st_sI σ 240 a v) = va_up (st_cell σ) a (some (.inr (6, (fl_6 σ a).set 0 (.int v)))) := by
  funext b
  by_cases hb : b = a
  · subst hb; rw [va_up_self, cell_6 (σ := st_sI σ 240 b v) (by rw [g_tg_sI]; exact h)]; simp [g_tg_sI, g_cl_sI, g_ln_sI, g_I_sI, g_J_sI, g_R_sI, g_eI_sI, g_eJ_sI, g_eR_sI, g_tg_uI, g_cl_uI, g_ln_uI, g_I_uI, g_J_uI, g_R_uI, g_eI_uI, g_eJ_uI, g_eR_uI, g_tg_sJ, g_cl_sJ, g_ln_sJ, g_I_sJ, g_J_sJ, g_R_sJ, g_eI_sJ, g_eJ_sJ, g_eR_sJ, g_tg_uJ, g_cl_uJ, g_ln_uJ, g_I_uJ, g_J_uJ, g_R_uJ, g_eI_uJ, g_eJ_uJ, g_eR_uJ, g_tg_sR, g_cl_sR, g_ln_sR, g_I_sR, g_J_sR, g_R_sR, g_eI_sR, g_eJ_sR, g_eR_sR, g_tg_uR, g_cl_uR, g_ln_uR, g_I_uR, g_J_uR, g_R_uR, g_eI_uR, g_eJ_uR, g_eR_uR, g_tg_new, g_cl_new, g_ln_new, g_I_new, g_J_new, g_R_new, g_eI_new, g_eJ_new, g_eR_new, g_tg_arr, g_cl_arr, g_ln_arr, g_I_arr, g_J_arr, g_R_arr, g_eI_arr, g_eJ_arr, g_eR_arr]
  · rw [va_up_ne _ _ hb]; exact cell_sI_ne σ _ _ _ hb
theorem put_6_1 (σ : ST) (a : Nat) (v : Int64) (h : st_tg σ a = some 6) : st_cell (st_sJ σ 241 a v) = va_up (st_cell σ) a (some (.inr (6, (fl_6 σ a).set 1 (.long v)))) := by
  funext b
  by_cases hb : b = a
  · subst hb; rw [va_up_self, cell_6 (σ := st_sJ σ 241 b v) (by rw [g_tg_sJ]; exact h)]; simp [g_tg_sI, g_cl_sI, g_ln_sI, g_I_sI, g_J_sI, g_R_sI, g_eI_sI, g_eJ_sI, g_eR_sI, g_tg_uI, g_cl_uI, g_ln_uI, g_I_uI, g_J_uI, g_R_uI, g_eI_uI, g_eJ_uI, g_eR_uI, g_tg_sJ, g_cl_sJ, g_ln_sJ, g_I_sJ, g_J_sJ, g_R_sJ, g_eI_sJ, g_eJ_sJ, g_eR_sJ, g_tg_uJ, g_cl_uJ, g_ln_uJ, g_I_uJ, g_J_uJ, g_R_uJ, g_eI_uJ, g_eJ_uJ, g_eR_uJ, g_tg_sR, g_cl_sR, g_ln_sR, g_I_sR, g_J_sR, g_R_sR, g_eI_sR, g_eJ_sR, g_eR_sR, g_tg_uR, g_cl_uR, g_ln_uR, g_I_uR, g_J_uR, g_R_uR, g_eI_uR, g_eJ_uR, g_eR_uR, g_tg_new, g_cl_new, g_ln_new, g_I_new, g_J_new, g_R_new, g_eI_new, g_eJ_new, g_eR_new, g_tg_arr, g_cl_arr, g_ln_arr, g_I_arr, g_J_arr, g_R_arr, g_eI_arr, g_eJ_arr, g_eR_arr]
  · rw [va_up_ne _ _ hb]; exact cell_sJ_ne σ _ _ _ hb
theorem put_6_2 (σ : ST) (a : Nat) (v : Int32) (h : st_tg σ a = some 6) : st_cell (st_sI σ 242 a v) = va_up (st_cell σ) a (some (.inr (6, (fl_6 σ a).set 2 (.int v)))) := by
  funext b
  by_cases hb : b = a
  · subst hb; rw [va_up_self, cell_6 (σ := st_sI σ 242 b v) (by rw [g_tg_sI]; exact h)]; simp [g_tg_sI, g_cl_sI, g_ln_sI, g_I_sI, g_J_sI, g_R_sI, g_eI_sI, g_eJ_sI, g_eR_sI, g_tg_uI, g_cl_uI, g_ln_uI, g_I_uI, g_J_uI, g_R_uI, g_eI_uI, g_eJ_uI, g_eR_uI, g_tg_sJ, g_cl_sJ, g_ln_sJ, g_I_sJ, g_J_sJ, g_R_sJ, g_eI_sJ, g_eJ_sJ, g_eR_sJ, g_tg_uJ, g_cl_uJ, g_ln_uJ, g_I_uJ, g_J_uJ, g_R_uJ, g_eI_uJ, g_eJ_uJ, g_eR_uJ, g_tg_sR, g_cl_sR, g_ln_sR, g_I_sR, g_J_sR, g_R_sR, g_eI_sR, g_eJ_sR, g_eR_sR, g_tg_uR, g_cl_uR, g_ln_uR, g_I_uR, g_J_uR, g_R_uR, g_eI_uR, g_eJ_uR, g_eR_uR, g_tg_new, g_cl_new, g_ln_new, g_I_new, g_J_new, g_R_new, g_eI_new, g_eJ_new, g_eR_new, g_tg_arr, g_cl_arr, g_ln_arr, g_I_arr, g_J_arr, g_R_arr, g_eI_arr, g_eJ_arr, g_eR_arr]
  · rw [va_up_ne _ _ hb]; exact cell_sI_ne σ _ _ _ hb
theorem put_6_3 (σ : ST) (a : Nat) (v : Int64) (h : st_tg σ a = some 6) : st_cell (st_sJ σ 243 a v) = va_up (st_cell σ) a (some (.inr (6, (fl_6 σ a).set 3 (.long v)))) := by
  funext b
  by_cases hb : b = a
  · subst hb; rw [va_up_self, cell_6 (σ := st_sJ σ 243 b v) (by rw [g_tg_sJ]; exact h)]; simp [g_tg_sI, g_cl_sI, g_ln_sI, g_I_sI, g_J_sI, g_R_sI, g_eI_sI, g_eJ_sI, g_eR_sI, g_tg_uI, g_cl_uI, g_ln_uI, g_I_uI, g_J_uI, g_R_uI, g_eI_uI, g_eJ_uI, g_eR_uI, g_tg_sJ, g_cl_sJ, g_ln_sJ, g_I_sJ, g_J_sJ, g_R_sJ, g_eI_sJ, g_eJ_sJ, g_eR_sJ, g_tg_uJ, g_cl_uJ, g_ln_uJ, g_I_uJ, g_J_uJ, g_R_uJ, g_eI_uJ, g_eJ_uJ, g_eR_uJ, g_tg_sR, g_cl_sR, g_ln_sR, g_I_sR, g_J_sR, g_R_sR, g_eI_sR, g_eJ_sR, g_eR_sR, g_tg_uR, g_cl_uR, g_ln_uR, g_I_uR, g_J_uR, g_R_uR, g_eI_uR, g_eJ_uR, g_eR_uR, g_tg_new, g_cl_new, g_ln_new, g_I_new, g_J_new, g_R_new, g_eI_new, g_eJ_new, g_eR_new, g_tg_arr, g_cl_arr, g_ln_arr, g_I_arr, g_J_arr, g_R_arr, g_eI_arr, g_eJ_arr, g_eR_arr]
  · rw [va_up_ne _ _ hb]; exact cell_sJ_ne σ _ _ _ hb
theorem put_6_4 (σ : ST) (a : Nat) (v : Int32) (h : st_tg σ a = some 6) : st_cell (st_sI σ 244 a v) = va_up (st_cell σ) a (some (.inr (6, (fl_6 σ a).set 4 (.int v)))) := by
  funext b
  by_cases hb : b = a
  · subst hb; rw [va_up_self, cell_6 (σ := st_sI σ 244 b v) (by rw [g_tg_sI]; exact h)]; simp [g_tg_sI, g_cl_sI, g_ln_sI, g_I_sI, g_J_sI, g_R_sI, g_eI_sI, g_eJ_sI, g_eR_sI, g_tg_uI, g_cl_uI, g_ln_uI, g_I_uI, g_J_uI, g_R_uI, g_eI_uI, g_eJ_uI, g_eR_uI, g_tg_sJ, g_cl_sJ, g_ln_sJ, g_I_sJ, g_J_sJ, g_R_sJ, g_eI_sJ, g_eJ_sJ, g_eR_sJ, g_tg_uJ, g_cl_uJ, g_ln_uJ, g_I_uJ, g_J_uJ, g_R_uJ, g_eI_uJ, g_eJ_uJ, g_eR_uJ, g_tg_sR, g_cl_sR, g_ln_sR, g_I_sR, g_J_sR, g_R_sR, g_eI_sR, g_eJ_sR, g_eR_sR, g_tg_uR, g_cl_uR, g_ln_uR, g_I_uR, g_J_uR, g_R_uR, g_eI_uR, g_eJ_uR, g_eR_uR, g_tg_new, g_cl_new, g_ln_new, g_I_new, g_J_new, g_R_new, g_eI_new, g_eJ_new, g_eR_new, g_tg_arr, g_cl_arr, g_ln_arr, g_I_arr, g_J_arr, g_R_arr, g_eI_arr, g_eJ_arr, g_eR_arr]
  · rw [va_up_ne _ _ hb]; exact cell_sI_ne σ _ _ _ hb
abbrev df_6 : List Value := [.int 0, .long 0, .int 0, .long 0, .int 0]
theorem new_6 (σ : ST) (q : Nat) (h : st_tg σ q = none) : st_cell (st_new σ q 6) = va_up (st_cell σ) q (some (.inr (6, df_6))) := by
  funext b
  by_cases hb : b = q
  · subst hb; rw [va_up_self, cell_6 (σ := st_new σ b 6) (by rw [g_tg_new, if_pos rfl])]; simp [g_tg_sI, g_cl_sI, g_ln_sI, g_I_sI, g_J_sI, g_R_sI, g_eI_sI, g_eJ_sI, g_eR_sI, g_tg_uI, g_cl_uI, g_ln_uI, g_I_uI, g_J_uI, g_R_uI, g_eI_uI, g_eJ_uI, g_eR_uI, g_tg_sJ, g_cl_sJ, g_ln_sJ, g_I_sJ, g_J_sJ, g_R_sJ, g_eI_sJ, g_eJ_sJ, g_eR_sJ, g_tg_uJ, g_cl_uJ, g_ln_uJ, g_I_uJ, g_J_uJ, g_R_uJ, g_eI_uJ, g_eJ_uJ, g_eR_uJ, g_tg_sR, g_cl_sR, g_ln_sR, g_I_sR, g_J_sR, g_R_sR, g_eI_sR, g_eJ_sR, g_eR_sR, g_tg_uR, g_cl_uR, g_ln_uR, g_I_uR, g_J_uR, g_R_uR, g_eI_uR, g_eJ_uR, g_eR_uR, g_tg_new, g_cl_new, g_ln_new, g_I_new, g_J_new, g_R_new, g_eI_new, g_eJ_new, g_eR_new, g_tg_arr, g_cl_arr, g_ln_arr, g_I_arr, g_J_arr, g_R_arr, g_eI_arr, g_eJ_arr, g_eR_arr]
  · rw [va_up_ne _ _ hb]; exact cell_new_ne σ _ _ hb
theorem uput_301 (σ : ST) (a i : Nat) (v : Int32) (h : st_tg σ a = some 301) : st_cell (st_uI σ a i v) = va_up (st_cell σ) a (some (.inl (st_cl σ a, st_ln σ a, .inl (upd (st_eI σ a) i v)))) := by
  funext b
  by_cases hb : b = a
  · subst hb
    rw [va_up_self, cell_301 (σ := st_uI σ b i v) (by rw [g_tg_uI]; exact h), g_cl_uI, g_ln_uI]
    have hf : st_eI (st_uI σ b i v) b = upd (st_eI σ b) i v := by funext j; simp [g_eI_uI, upd]
    rw [hf]
  · rw [va_up_ne _ _ hb]; exact cell_uI_ne σ _ _ _ hb
theorem anew_301 (σ : ST) (q : Nat) (cA : ClassId) (n : Nat) (h : st_tg σ q = none) : st_cell (st_arr σ q 301 cA n) = va_up (st_cell σ) q (some (.inl (cA, n, .inl (fun _ => 0)))) := by
  funext b
  by_cases hb : b = q
  · subst hb
    rw [va_up_self, cell_301 (σ := st_arr σ b 301 cA n) (by rw [g_tg_arr, if_pos rfl])]
    have hf : st_eI (st_arr σ b 301 cA n) b = fun _ => 0 := by funext j; simp [g_eI_arr]
    rw [hf, g_cl_arr, g_ln_arr, if_pos rfl, if_pos rfl]
  · rw [va_up_ne _ _ hb]; exact cell_arr_ne σ _ _ _ _ hb
theorem uput_302 (σ : ST) (a i : Nat) (v : Int64) (h : st_tg σ a = some 302) : st_cell (st_uJ σ a i v) = va_up (st_cell σ) a (some (.inl (st_cl σ a, st_ln σ a, .inr (.inl (vp_updL (st_eJ σ a) i v))))) := by
  funext b
  by_cases hb : b = a
  · subst hb
    rw [va_up_self, cell_302 (σ := st_uJ σ b i v) (by rw [g_tg_uJ]; exact h), g_cl_uJ, g_ln_uJ]
    have hf : st_eJ (st_uJ σ b i v) b = vp_updL (st_eJ σ b) i v := by funext j; simp [g_eJ_uJ, vp_updL]
    rw [hf]
  · rw [va_up_ne _ _ hb]; exact cell_uJ_ne σ _ _ _ hb
theorem anew_302 (σ : ST) (q : Nat) (cA : ClassId) (n : Nat) (h : st_tg σ q = none) : st_cell (st_arr σ q 302 cA n) = va_up (st_cell σ) q (some (.inl (cA, n, .inr (.inl (fun _ => 0))))) := by
  funext b
  by_cases hb : b = q
  · subst hb
    rw [va_up_self, cell_302 (σ := st_arr σ b 302 cA n) (by rw [g_tg_arr, if_pos rfl])]
    have hf : st_eJ (st_arr σ b 302 cA n) b = fun _ => 0 := by funext j; simp [g_eJ_arr]
    rw [hf, g_cl_arr, g_ln_arr, if_pos rfl, if_pos rfl]
  · rw [va_up_ne _ _ hb]; exact cell_arr_ne σ _ _ _ _ hb
theorem uput_303 (σ : ST) (a i : Nat) (v : Int32) (h : st_tg σ a = some 303) : st_cell (st_uI σ a i v) = va_up (st_cell σ) a (some (.inl (st_cl σ a, st_ln σ a, .inl (upd (st_eI σ a) i v)))) := by
  funext b
  by_cases hb : b = a
  · subst hb
    rw [va_up_self, cell_303 (σ := st_uI σ b i v) (by rw [g_tg_uI]; exact h), g_cl_uI, g_ln_uI]
    have hf : st_eI (st_uI σ b i v) b = upd (st_eI σ b) i v := by funext j; simp [g_eI_uI, upd]
    rw [hf]
  · rw [va_up_ne _ _ hb]; exact cell_uI_ne σ _ _ _ hb
theorem anew_303 (σ : ST) (q : Nat) (cA : ClassId) (n : Nat) (h : st_tg σ q = none) : st_cell (st_arr σ q 303 cA n) = va_up (st_cell σ) q (some (.inl (cA, n, .inl (fun _ => 0)))) := by
  funext b
  by_cases hb : b = q
  · subst hb
    rw [va_up_self, cell_303 (σ := st_arr σ b 303 cA n) (by rw [g_tg_arr, if_pos rfl])]
    have hf : st_eI (st_arr σ b 303 cA n) b = fun _ => 0 := by funext j; simp [g_eI_arr]
    rw [hf, g_cl_arr, g_ln_arr, if_pos rfl, if_pos rfl]
  · rw [va_up_ne _ _ hb]; exact cell_arr_ne σ _ _ _ _ hb
theorem uput_312 (σ : ST) (a i : Nat) (v : Option Nat) (h : st_tg σ a = some 312) : st_cell (st_uR σ a i v) = va_up (st_cell σ) a (some (.inl (st_cl σ a, st_ln σ a, .inr (.inr (.inr (.inr (va_up (st_eR σ a) i v))))))) := by
  funext b
  by_cases hb : b = a
  · subst hb
    rw [va_up_self, cell_312 (σ := st_uR σ b i v) (by rw [g_tg_uR]; exact h), g_cl_uR, g_ln_uR]
    have hf : st_eR (st_uR σ b i v) b = va_up (st_eR σ b) i v := by funext j; simp [g_eR_uR, va_up]
    rw [hf]
  · rw [va_up_ne _ _ hb]; exact cell_uR_ne σ _ _ _ hb
theorem anew_312 (σ : ST) (q : Nat) (cA : ClassId) (n : Nat) (h : st_tg σ q = none) : st_cell (st_arr σ q 312 cA n) = va_up (st_cell σ) q (some (.inl (cA, n, .inr (.inr (.inr (.inr (fun _ => none))))))) := by
  funext b
  by_cases hb : b = q
  · subst hb
    rw [va_up_self, cell_312 (σ := st_arr σ b 312 cA n) (by rw [g_tg_arr, if_pos rfl])]
    have hf : st_eR (st_arr σ b 312 cA n) b = fun _ => none := by funext j; simp [g_eR_arr]
    rw [hf, g_cl_arr, g_ln_arr, if_pos rfl, if_pos rfl]
  · rw [va_up_ne _ _ hb]; exact cell_arr_ne σ _ _ _ _ hb
theorem uput_313 (σ : ST) (a i : Nat) (v : Option Nat) (h : st_tg σ a = some 313) : st_cell (st_uR σ a i v) = va_up (st_cell σ) a (some (.inl (st_cl σ a, st_ln σ a, .inr (.inr (.inr (.inr (va_up (st_eR σ a) i v))))))) := by
  funext b
  by_cases hb : b = a
  · subst hb
    rw [va_up_self, cell_313 (σ := st_uR σ b i v) (by rw [g_tg_uR]; exact h), g_cl_uR, g_ln_uR]
    have hf : st_eR (st_uR σ b i v) b = va_up (st_eR σ b) i v := by funext j; simp [g_eR_uR, va_up]
    rw [hf]
  · rw [va_up_ne _ _ hb]; exact cell_uR_ne σ _ _ _ hb
theorem anew_313 (σ : ST) (q : Nat) (cA : ClassId) (n : Nat) (h : st_tg σ q = none) : st_cell (st_arr σ q 313 cA n) = va_up (st_cell σ) q (some (.inl (cA, n, .inr (.inr (.inr (.inr (fun _ => none))))))) := by
  funext b
  by_cases hb : b = q
  · subst hb
    rw [va_up_self, cell_313 (σ := st_arr σ b 313 cA n) (by rw [g_tg_arr, if_pos rfl])]
    have hf : st_eR (st_arr σ b 313 cA n) b = fun _ => none := by funext j; simp [g_eR_arr]
    rw [hf, g_cl_arr, g_ln_arr, if_pos rfl, if_pos rfl]
  · rw [va_up_ne _ _ hb]; exact cell_arr_ne σ _ _ _ _ hb
theorem uput_314 (σ : ST) (a i : Nat) (v : Option Nat) (h : st_tg σ a = some 314) : st_cell (st_uR σ a i v) = va_up (st_cell σ) a (some (.inl (st_cl σ a, st_ln σ a, .inr (.inr (.inr (.inr (va_up (st_eR σ a) i v))))))) := by
  funext b
  by_cases hb : b = a
  · subst hb
    rw [va_up_self, cell_314 (σ := st_uR σ b i v) (by rw [g_tg_uR]; exact h), g_cl_uR, g_ln_uR]
    have hf : st_eR (st_uR σ b i v) b = va_up (st_eR σ b) i v := by funext j; simp [g_eR_uR, va_up]
    rw [hf]
  · rw [va_up_ne _ _ hb]; exact cell_uR_ne σ _ _ _ hb
theorem anew_314 (σ : ST) (q : Nat) (cA : ClassId) (n : Nat) (h : st_tg σ q = none) : st_cell (st_arr σ q 314 cA n) = va_up (st_cell σ) q (some (.inl (cA, n, .inr (.inr (.inr (.inr (fun _ => none))))))) := by
  funext b
  by_cases hb : b = q
  · subst hb
    rw [va_up_self, cell_314 (σ := st_arr σ b 314 cA n) (by rw [g_tg_arr, if_pos rfl])]
    have hf : st_eR (st_arr σ b 314 cA n) b = fun _ => none := by funext j; simp [g_eR_arr]
    rw [hf, g_cl_arr, g_ln_arr, if_pos rfl, if_pos rfl]
  · rw [va_up_ne _ _ hb]; exact cell_arr_ne σ _ _ _ _ hb
theorem uput_315 (σ : ST) (a i : Nat) (v : Option Nat) (h : st_tg σ a = some 315) : st_cell (st_uR σ a i v) = va_up (st_cell σ) a (some (.inl (st_cl σ a, st_ln σ a, .inr (.inr (.inr (.inr (va_up (st_eR σ a) i v))))))) := by
  funext b
  by_cases hb : b = a
  · subst hb
    rw [va_up_self, cell_315 (σ := st_uR σ b i v) (by rw [g_tg_uR]; exact h), g_cl_uR, g_ln_uR]
    have hf : st_eR (st_uR σ b i v) b = va_up (st_eR σ b) i v := by funext j; simp [g_eR_uR, va_up]
    rw [hf]
  · rw [va_up_ne _ _ hb]; exact cell_uR_ne σ _ _ _ hb
theorem anew_315 (σ : ST) (q : Nat) (cA : ClassId) (n : Nat) (h : st_tg σ q = none) : st_cell (st_arr σ q 315 cA n) = va_up (st_cell σ) q (some (.inl (cA, n, .inr (.inr (.inr (.inr (fun _ => none))))))) := by
  funext b
  by_cases hb : b = q
  · subst hb
    rw [va_up_self, cell_315 (σ := st_arr σ b 315 cA n) (by rw [g_tg_arr, if_pos rfl])]
    have hf : st_eR (st_arr σ b 315 cA n) b = fun _ => none := by funext j; simp [g_eR_arr]
    rw [hf, g_cl_arr, g_ln_arr, if_pos rfl, if_pos rfl]
  · rw [va_up_ne _ _ hb]; exact cell_arr_ne σ _ _ _ _ hb
theorem uput_316 (σ : ST) (a i : Nat) (v : Option Nat) (h : st_tg σ a = some 316) : st_cell (st_uR σ a i v) = va_up (st_cell σ) a (some (.inl (st_cl σ a, st_ln σ a, .inr (.inr (.inr (.inr (va_up (st_eR σ a) i v))))))) := by
  funext b
  by_cases hb : b = a
  · subst hb
    rw [va_up_self, cell_316 (σ := st_uR σ b i v) (by rw [g_tg_uR]; exact h), g_cl_uR, g_ln_uR]
    have hf : st_eR (st_uR σ b i v) b = va_up (st_eR σ b) i v := by funext j; simp [g_eR_uR, va_up]
    rw [hf]
  · rw [va_up_ne _ _ hb]; exact cell_uR_ne σ _ _ _ hb
theorem anew_316 (σ : ST) (q : Nat) (cA : ClassId) (n : Nat) (h : st_tg σ q = none) : st_cell (st_arr σ q 316 cA n) = va_up (st_cell σ) q (some (.inl (cA, n, .inr (.inr (.inr (.inr (fun _ => none))))))) := by
  funext b
  by_cases hb : b = q
  · subst hb
    rw [va_up_self, cell_316 (σ := st_arr σ b 316 cA n) (by rw [g_tg_arr, if_pos rfl])]
    have hf : st_eR (st_arr σ b 316 cA n) b = fun _ => none := by funext j; simp [g_eR_arr]
    rw [hf, g_cl_arr, g_ln_arr, if_pos rfl, if_pos rfl]
  · rw [va_up_ne _ _ hb]; exact cell_arr_ne σ _ _ _ _ hb
theorem dfl_0 : ∀ j, j < 10 → defaultValue (ty_X j) = vp_V df_0 j := by
  intro j hj
  rcases (show j = 0 ∨ j = 1 ∨ j = 2 ∨ j = 3 ∨ j = 4 ∨ j = 5 ∨ j = 6 ∨ j = 7 ∨ j = 8 ∨ j = 9 by omega) with rfl | rfl | rfl | rfl | rfl | rfl | rfl | rfl | rfl | rfl <;> rfl
theorem dfl_1 : ∀ j, j < 32 → defaultValue (ty_M j) = vp_V df_1 j := by
  intro j hj
  rcases (show j = 0 ∨ j = 1 ∨ j = 2 ∨ j = 3 ∨ j = 4 ∨ j = 5 ∨ j = 6 ∨ j = 7 ∨ j = 8 ∨ j = 9 ∨ j = 10 ∨ j = 11 ∨ j = 12 ∨ j = 13 ∨ j = 14 ∨ j = 15 ∨ j = 16 ∨ j = 17 ∨ j = 18 ∨ j = 19 ∨ j = 20 ∨ j = 21 ∨ j = 22 ∨ j = 23 ∨ j = 24 ∨ j = 25 ∨ j = 26 ∨ j = 27 ∨ j = 28 ∨ j = 29 ∨ j = 30 ∨ j = 31 by omega) with rfl | rfl | rfl | rfl | rfl | rfl | rfl | rfl | rfl | rfl | rfl | rfl | rfl | rfl | rfl | rfl | rfl | rfl | rfl | rfl | rfl | rfl | rfl | rfl | rfl | rfl | rfl | rfl | rfl | rfl | rfl | rfl <;> rfl
theorem dfl_2 : ∀ j, j < 3 → defaultValue (ty_Collected j) = vp_V df_2 j := by
  intro j hj
  rcases (show j = 0 ∨ j = 1 ∨ j = 2 by omega) with rfl | rfl | rfl <;> rfl
theorem dfl_3 : ∀ j, j < 1 → defaultValue (ty_Currency j) = vp_V df_3 j := by
  intro j hj
  rcases (show j = 0 by omega) with rfl <;> rfl
theorem dfl_4 : ∀ j, j < 9 → defaultValue (ty_Office j) = vp_V df_4 j := by
  intro j hj
  rcases (show j = 0 ∨ j = 1 ∨ j = 2 ∨ j = 3 ∨ j = 4 ∨ j = 5 ∨ j = 6 ∨ j = 7 ∨ j = 8 by omega) with rfl | rfl | rfl | rfl | rfl | rfl | rfl | rfl | rfl <;> rfl
theorem dfl_5 : ∀ j, j < 11 → defaultValue (ty_Order j) = vp_V df_5 j := by
  intro j hj
  rcases (show j = 0 ∨ j = 1 ∨ j = 2 ∨ j = 3 ∨ j = 4 ∨ j = 5 ∨ j = 6 ∨ j = 7 ∨ j = 8 ∨ j = 9 ∨ j = 10 by omega) with rfl | rfl | rfl | rfl | rfl | rfl | rfl | rfl | rfl | rfl | rfl <;> rfl
theorem dfl_6 : ∀ j, j < 5 → defaultValue (ty_Try j) = vp_V df_6 j := by
  intro j hj
  rcases (show j = 0 ∨ j = 1 ∨ j = 2 ∨ j = 3 ∨ j = 4 by omega) with rfl | rfl | rfl | rfl | rfl <;> rfl
