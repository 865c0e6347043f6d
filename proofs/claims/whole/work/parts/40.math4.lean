/-! DareBridge's own calls, as they reckon -/
def dj_perT (T : Nat → Nat → Int32) (p s f q w : Int32) : Nat → Nat → Int32 := if xw_in p 0 5 = true then (if xw_in s 0 9 = true then (if xw_in f 0 9 = true then (if xw_in q 0 9 = true then dt_come T p s f q (if w = 0 then 0 else 1) else T) else T) else T) else T
def dj_perR (T : Nat → Nat → Int32) (p s f q w : Int32) : Int32 := if xw_in p 0 5 = true then (if xw_in s 0 9 = true then (if xw_in f 0 9 = true then (if xw_in q 0 9 = true then xw_bc (dt_btu (dt_come T p s f q (if w = 0 then 0 else 1)) 6) else -2) else -2) else -2) else -1
def dj_leaT (T : Nat → Nat → Int32) (p : Int32) : Nat → Nat → Int32 := if dt_isT T p = true then dt_go T p else T
def dj_leaR (T : Nat → Nat → Int32) (p : Int32) : Int32 := if dt_isT T p = true then xw_bc (dt_btu (dt_go T p) 6) else -1
def dj_setT (T : Nat → Nat → Int32) (k v : Int32) : Nat → Nat → Int32 := if xw_in k 0 6 = true then (if xw_in v (xb_at 7 xg_f1 k) (xb_at 7 xg_f2 k) = true then va_up T 0 (xb_pt 7 (T 0) k v) else T) else T
def dj_setR (T : Nat → Nat → Int32) (k v : Int32) : Int32 := if xw_in k 0 6 = true then (if xw_in v (xb_at 7 xg_f1 k) (xb_at 7 xg_f2 k) = true then xb_at 7 (T 0) k else -2) else -2
def dj_sayN (n x : Int32) : Int32 := if xw_in x 33 126 = true then (if n < 60 then n + 1 else n) else n
def dj_sayF (n x : Int32) (g : Nat → Int32) : Nat → Int32 := if xw_in x 33 126 = true then (if n < 60 then xb_pt 60 g n x else g) else g
def dj_sayR (n x : Int32) : Int32 := if xw_in x 33 126 = true then (if n < 60 then n + 1 else -4) else -2
abbrev dk_S : Type := Int32 × Int32 × ds_D
def dk_ply (T : Nat → Nat → Int32) (g : Nat → Int32) (nn : Nat) (x : dk_S) : dk_S := if dp_flt g nn nn 0 0 = -6 then ds_sum T g nn else x
def dk_ret (T : Nat → Nat → Int32) (g : Nat → Int32) (nn : Nat) : Int32 := if dp_flt g nn nn 0 0 = -6 then (if (ds_sum T g nn).2.1 = 0 then 0 else -3) else -5
def dj_jsw (r : Int32) (x : dk_S) (w : Int32) : Int32 := if w = 0 then (if r = -3 then x.1 else -6) else if w = 1 then (if r = -3 then x.2.1 else -6) else if w = 2 then x.2.2.2.2.2.1 else if w = 3 then x.2.2.2.2.2.2.1 else x.2.2.2.2.2.2.2
def dj_jud (r : Int32) (x : dk_S) (w : Int32) : Int32 := if xw_in w 0 4 = true then (if r = -5 then r else if r = -3 then (if w < 2 then dj_jsw r x w else r) else dj_jsw r x w) else -2
def dj_stt (T : Nat → Nat → Int32) (p w : Int32) : Int32 := if dt_isT T p = true then (if xw_in w 0 2 = true then dt_sta T p w else -2) else -1
def dj_beh (T : Nat → Nat → Int32) (r : Int32) (x : dk_S) (p w : Int32) : Int32 := if dt_isT T p = true then (if xw_in w 0 2 = true then (if r = 0 then dt_sta x.2.2.1 p w else r) else -2) else -1
def dj_don (r : Int32) (x : dk_S) : Int32 := if r = 0 then x.1 else r
def dj_tie (r : Int32) (x : dk_S) (w : Int32) : Int32 := if xw_in w 0 1 = true then (if r = 0 then (if 0 ≤ (ds_clo x.2.2.2.1 36).1 then (if w = 0 then (ds_clo x.2.2.2.1 36).1 / 6 * 10 + xw_rem (ds_clo x.2.2.2.1 36).1 6 else xb_at 36 x.2.2.2.1 (ds_clo x.2.2.2.1 36).1) else -6) else r) else -2
def dj_unh (r : Int32) (x : dk_S) (w : Int32) : Int64 := if xw_in w 0 1 = true then (if r = 0 then (if x.2.2.2.2.1.1 ≤ 15 then dc_low x.2.2.2.2.1.2.1 x.2.2.2.2.1.2.2 w else -1000000000000000004) else -1000000000000000000 + r.toInt64) else -1000000000000000002
def dj_roh (T : Nat → Nat → Int32) (p h : Int32) : Int32 := if dt_isT T p = true then (if xw_in h 1 15 = true then 0 else -2) else -1
def dj_roc (T : Nat → Nat → Int32) (p q h l : Int32) : Int32 := if dt_isT T p = true then (if dt_isT T q = true then (if p = q then -1 else if xw_in l 1 15 = true then (if xw_in h 1 l = true then 0 else -2) else -2) else -1) else -1
def dj_tra (T : Nat → Nat → Int32) (p k : Int32) : Int32 := if dt_isT T p = true then (if k = 0 then xb_at 6 (T 2) p else if k = 1 then xb_at 6 (T 3) p else if k = 2 then xb_at 6 (T 4) p else if k = 3 then xb_at 6 (T 5) p else -2) else -2
def dj_aft (c : Prop) [Decidable c] (x old : dk_S) : dk_S := if c then x else old
theorem xs_10 : ¬ (1 : Int32) = 0 := by decide
theorem xs_20 : ¬ (2 : Int32) = 0 := by decide
theorem xs_21 : ¬ (2 : Int32) = 1 := by decide
theorem xs_30 : ¬ (3 : Int32) = 0 := by decide
theorem xs_31 : ¬ (3 : Int32) = 1 := by decide
theorem xs_32 : ¬ (3 : Int32) = 2 := by decide
