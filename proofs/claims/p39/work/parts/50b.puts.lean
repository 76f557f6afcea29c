/-! one part of the world anew; by program (wip/tools/world.py) -/
def qs_K (s : ab_q) (v : List Nat) : ab_q := (v, qA s, qB s, qP s, qU s, qL s, qW s, qG s, qC s, qN s, qM s, qR s, qY s, qD s, qS s)
def qs_A (s : ab_q) (v : List Nat) : ab_q := (qK s, v, qB s, qP s, qU s, qL s, qW s, qG s, qC s, qN s, qM s, qR s, qY s, qD s, qS s)
def qs_B (s : ab_q) (v : List Nat) : ab_q := (qK s, qA s, v, qP s, qU s, qL s, qW s, qG s, qC s, qN s, qM s, qR s, qY s, qD s, qS s)
def qs_P (s : ab_q) (v : List Nat) : ab_q := (qK s, qA s, qB s, v, qU s, qL s, qW s, qG s, qC s, qN s, qM s, qR s, qY s, qD s, qS s)
def qs_U (s : ab_q) (v : List Nat) : ab_q := (qK s, qA s, qB s, qP s, v, qL s, qW s, qG s, qC s, qN s, qM s, qR s, qY s, qD s, qS s)
def qs_L (s : ab_q) (v : List Nat) : ab_q := (qK s, qA s, qB s, qP s, qU s, v, qW s, qG s, qC s, qN s, qM s, qR s, qY s, qD s, qS s)
def qs_W (s : ab_q) (v : List Nat) : ab_q := (qK s, qA s, qB s, qP s, qU s, qL s, v, qG s, qC s, qN s, qM s, qR s, qY s, qD s, qS s)
def qs_G (s : ab_q) (v : List Int32) : ab_q := (qK s, qA s, qB s, qP s, qU s, qL s, qW s, v, qC s, qN s, qM s, qR s, qY s, qD s, qS s)
def qs_C (s : ab_q) (v : List Nat) : ab_q := (qK s, qA s, qB s, qP s, qU s, qL s, qW s, qG s, v, qN s, qM s, qR s, qY s, qD s, qS s)
def qs_N (s : ab_q) (v : Nat) : ab_q := (qK s, qA s, qB s, qP s, qU s, qL s, qW s, qG s, qC s, v, qM s, qR s, qY s, qD s, qS s)
def qs_M (s : ab_q) (v : Nat) : ab_q := (qK s, qA s, qB s, qP s, qU s, qL s, qW s, qG s, qC s, qN s, v, qR s, qY s, qD s, qS s)
def qs_R (s : ab_q) (v : Int32) : ab_q := (qK s, qA s, qB s, qP s, qU s, qL s, qW s, qG s, qC s, qN s, qM s, v, qY s, qD s, qS s)
def qs_Y (s : ab_q) (v : Int32) : ab_q := (qK s, qA s, qB s, qP s, qU s, qL s, qW s, qG s, qC s, qN s, qM s, qR s, v, qD s, qS s)
def qs_D (s : ab_q) (v : Int32) : ab_q := (qK s, qA s, qB s, qP s, qU s, qL s, qW s, qG s, qC s, qN s, qM s, qR s, qY s, v, qS s)
def qs_S (s : ab_q) (v : Int32) : ab_q := (qK s, qA s, qB s, qP s, qU s, qL s, qW s, qG s, qC s, qN s, qM s, qR s, qY s, qD s, v)
theorem qg_KK {s : ab_q} {v : List Nat} : qK (qs_K s v) = v := rfl
theorem qg_KA {s : ab_q} {v : List Nat} : qK (qs_A s v) = qK s := rfl
theorem qg_KB {s : ab_q} {v : List Nat} : qK (qs_B s v) = qK s := rfl
theorem qg_KP {s : ab_q} {v : List Nat} : qK (qs_P s v) = qK s := rfl
theorem qg_KU {s : ab_q} {v : List Nat} : qK (qs_U s v) = qK s := rfl
theorem qg_KL {s : ab_q} {v : List Nat} : qK (qs_L s v) = qK s := rfl
theorem qg_KW {s : ab_q} {v : List Nat} : qK (qs_W s v) = qK s := rfl
theorem qg_KG {s : ab_q} {v : List Int32} : qK (qs_G s v) = qK s := rfl
theorem qg_KC {s : ab_q} {v : List Nat} : qK (qs_C s v) = qK s := rfl
theorem qg_KN {s : ab_q} {v : Nat} : qK (qs_N s v) = qK s := rfl
theorem qg_KM {s : ab_q} {v : Nat} : qK (qs_M s v) = qK s := rfl
theorem qg_KR {s : ab_q} {v : Int32} : qK (qs_R s v) = qK s := rfl
theorem qg_KY {s : ab_q} {v : Int32} : qK (qs_Y s v) = qK s := rfl
theorem qg_KD {s : ab_q} {v : Int32} : qK (qs_D s v) = qK s := rfl
theorem qg_KS {s : ab_q} {v : Int32} : qK (qs_S s v) = qK s := rfl
theorem qg_AK {s : ab_q} {v : List Nat} : qA (qs_K s v) = qA s := rfl
theorem qg_AA {s : ab_q} {v : List Nat} : qA (qs_A s v) = v := rfl
theorem qg_AB {s : ab_q} {v : List Nat} : qA (qs_B s v) = qA s := rfl
theorem qg_AP {s : ab_q} {v : List Nat} : qA (qs_P s v) = qA s := rfl
theorem qg_AU {s : ab_q} {v : List Nat} : qA (qs_U s v) = qA s := rfl
theorem qg_AL {s : ab_q} {v : List Nat} : qA (qs_L s v) = qA s := rfl
theorem qg_AW {s : ab_q} {v : List Nat} : qA (qs_W s v) = qA s := rfl
theorem qg_AG {s : ab_q} {v : List Int32} : qA (qs_G s v) = qA s := rfl
theorem qg_AC {s : ab_q} {v : List Nat} : qA (qs_C s v) = qA s := rfl
theorem qg_AN {s : ab_q} {v : Nat} : qA (qs_N s v) = qA s := rfl
theorem qg_AM {s : ab_q} {v : Nat} : qA (qs_M s v) = qA s := rfl
theorem qg_AR {s : ab_q} {v : Int32} : qA (qs_R s v) = qA s := rfl
theorem qg_AY {s : ab_q} {v : Int32} : qA (qs_Y s v) = qA s := rfl
theorem qg_AD {s : ab_q} {v : Int32} : qA (qs_D s v) = qA s := rfl
theorem qg_AS {s : ab_q} {v : Int32} : qA (qs_S s v) = qA s := rfl
theorem qg_BK {s : ab_q} {v : List Nat} : qB (qs_K s v) = qB s := rfl
theorem qg_BA {s : ab_q} {v : List Nat} : qB (qs_A s v) = qB s := rfl
theorem qg_BB {s : ab_q} {v : List Nat} : qB (qs_B s v) = v := rfl
theorem qg_BP {s : ab_q} {v : List Nat} : qB (qs_P s v) = qB s := rfl
theorem qg_BU {s : ab_q} {v : List Nat} : qB (qs_U s v) = qB s := rfl
theorem qg_BL {s : ab_q} {v : List Nat} : qB (qs_L s v) = qB s := rfl
theorem qg_BW {s : ab_q} {v : List Nat} : qB (qs_W s v) = qB s := rfl
theorem qg_BG {s : ab_q} {v : List Int32} : qB (qs_G s v) = qB s := rfl
theorem qg_BC {s : ab_q} {v : List Nat} : qB (qs_C s v) = qB s := rfl
theorem qg_BN {s : ab_q} {v : Nat} : qB (qs_N s v) = qB s := rfl
theorem qg_BM {s : ab_q} {v : Nat} : qB (qs_M s v) = qB s := rfl
theorem qg_BR {s : ab_q} {v : Int32} : qB (qs_R s v) = qB s := rfl
theorem qg_BY {s : ab_q} {v : Int32} : qB (qs_Y s v) = qB s := rfl
theorem qg_BD {s : ab_q} {v : Int32} : qB (qs_D s v) = qB s := rfl
theorem qg_BS {s : ab_q} {v : Int32} : qB (qs_S s v) = qB s := rfl
theorem qg_PK {s : ab_q} {v : List Nat} : qP (qs_K s v) = qP s := rfl
theorem qg_PA {s : ab_q} {v : List Nat} : qP (qs_A s v) = qP s := rfl
theorem qg_PB {s : ab_q} {v : List Nat} : qP (qs_B s v) = qP s := rfl
theorem qg_PP {s : ab_q} {v : List Nat} : qP (qs_P s v) = v := rfl
theorem qg_PU {s : ab_q} {v : List Nat} : qP (qs_U s v) = qP s := rfl
theorem qg_PL {s : ab_q} {v : List Nat} : qP (qs_L s v) = qP s := rfl
theorem qg_PW {s : ab_q} {v : List Nat} : qP (qs_W s v) = qP s := rfl
theorem qg_PG {s : ab_q} {v : List Int32} : qP (qs_G s v) = qP s := rfl
theorem qg_PC {s : ab_q} {v : List Nat} : qP (qs_C s v) = qP s := rfl
theorem qg_PN {s : ab_q} {v : Nat} : qP (qs_N s v) = qP s := rfl
theorem qg_PM {s : ab_q} {v : Nat} : qP (qs_M s v) = qP s := rfl
theorem qg_PR {s : ab_q} {v : Int32} : qP (qs_R s v) = qP s := rfl
theorem qg_PY {s : ab_q} {v : Int32} : qP (qs_Y s v) = qP s := rfl
theorem qg_PD {s : ab_q} {v : Int32} : qP (qs_D s v) = qP s := rfl
theorem qg_PS {s : ab_q} {v : Int32} : qP (qs_S s v) = qP s := rfl
theorem qg_UK {s : ab_q} {v : List Nat} : qU (qs_K s v) = qU s := rfl
theorem qg_UA {s : ab_q} {v : List Nat} : qU (qs_A s v) = qU s := rfl
theorem qg_UB {s : ab_q} {v : List Nat} : qU (qs_B s v) = qU s := rfl
theorem qg_UP {s : ab_q} {v : List Nat} : qU (qs_P s v) = qU s := rfl
theorem qg_UU {s : ab_q} {v : List Nat} : qU (qs_U s v) = v := rfl
theorem qg_UL {s : ab_q} {v : List Nat} : qU (qs_L s v) = qU s := rfl
theorem qg_UW {s : ab_q} {v : List Nat} : qU (qs_W s v) = qU s := rfl
theorem qg_UG {s : ab_q} {v : List Int32} : qU (qs_G s v) = qU s := rfl
theorem qg_UC {s : ab_q} {v : List Nat} : qU (qs_C s v) = qU s := rfl
theorem qg_UN {s : ab_q} {v : Nat} : qU (qs_N s v) = qU s := rfl
theorem qg_UM {s : ab_q} {v : Nat} : qU (qs_M s v) = qU s := rfl
theorem qg_UR {s : ab_q} {v : Int32} : qU (qs_R s v) = qU s := rfl
theorem qg_UY {s : ab_q} {v : Int32} : qU (qs_Y s v) = qU s := rfl
theorem qg_UD {s : ab_q} {v : Int32} : qU (qs_D s v) = qU s := rfl
theorem qg_US {s : ab_q} {v : Int32} : qU (qs_S s v) = qU s := rfl
theorem qg_LK {s : ab_q} {v : List Nat} : qL (qs_K s v) = qL s := rfl
theorem qg_LA {s : ab_q} {v : List Nat} : qL (qs_A s v) = qL s := rfl
theorem qg_LB {s : ab_q} {v : List Nat} : qL (qs_B s v) = qL s := rfl
theorem qg_LP {s : ab_q} {v : List Nat} : qL (qs_P s v) = qL s := rfl
theorem qg_LU {s : ab_q} {v : List Nat} : qL (qs_U s v) = qL s := rfl
theorem qg_LL {s : ab_q} {v : List Nat} : qL (qs_L s v) = v := rfl
theorem qg_LW {s : ab_q} {v : List Nat} : qL (qs_W s v) = qL s := rfl
theorem qg_LG {s : ab_q} {v : List Int32} : qL (qs_G s v) = qL s := rfl
theorem qg_LC {s : ab_q} {v : List Nat} : qL (qs_C s v) = qL s := rfl
theorem qg_LN {s : ab_q} {v : Nat} : qL (qs_N s v) = qL s := rfl
theorem qg_LM {s : ab_q} {v : Nat} : qL (qs_M s v) = qL s := rfl
theorem qg_LR {s : ab_q} {v : Int32} : qL (qs_R s v) = qL s := rfl
theorem qg_LY {s : ab_q} {v : Int32} : qL (qs_Y s v) = qL s := rfl
theorem qg_LD {s : ab_q} {v : Int32} : qL (qs_D s v) = qL s := rfl
theorem qg_LS {s : ab_q} {v : Int32} : qL (qs_S s v) = qL s := rfl
theorem qg_WK {s : ab_q} {v : List Nat} : qW (qs_K s v) = qW s := rfl
theorem qg_WA {s : ab_q} {v : List Nat} : qW (qs_A s v) = qW s := rfl
theorem qg_WB {s : ab_q} {v : List Nat} : qW (qs_B s v) = qW s := rfl
theorem qg_WP {s : ab_q} {v : List Nat} : qW (qs_P s v) = qW s := rfl
theorem qg_WU {s : ab_q} {v : List Nat} : qW (qs_U s v) = qW s := rfl
theorem qg_WL {s : ab_q} {v : List Nat} : qW (qs_L s v) = qW s := rfl
theorem qg_WW {s : ab_q} {v : List Nat} : qW (qs_W s v) = v := rfl
theorem qg_WG {s : ab_q} {v : List Int32} : qW (qs_G s v) = qW s := rfl
theorem qg_WC {s : ab_q} {v : List Nat} : qW (qs_C s v) = qW s := rfl
theorem qg_WN {s : ab_q} {v : Nat} : qW (qs_N s v) = qW s := rfl
theorem qg_WM {s : ab_q} {v : Nat} : qW (qs_M s v) = qW s := rfl
theorem qg_WR {s : ab_q} {v : Int32} : qW (qs_R s v) = qW s := rfl
theorem qg_WY {s : ab_q} {v : Int32} : qW (qs_Y s v) = qW s := rfl
theorem qg_WD {s : ab_q} {v : Int32} : qW (qs_D s v) = qW s := rfl
theorem qg_WS {s : ab_q} {v : Int32} : qW (qs_S s v) = qW s := rfl
theorem qg_GK {s : ab_q} {v : List Nat} : qG (qs_K s v) = qG s := rfl
theorem qg_GA {s : ab_q} {v : List Nat} : qG (qs_A s v) = qG s := rfl
theorem qg_GB {s : ab_q} {v : List Nat} : qG (qs_B s v) = qG s := rfl
theorem qg_GP {s : ab_q} {v : List Nat} : qG (qs_P s v) = qG s := rfl
theorem qg_GU {s : ab_q} {v : List Nat} : qG (qs_U s v) = qG s := rfl
theorem qg_GL {s : ab_q} {v : List Nat} : qG (qs_L s v) = qG s := rfl
theorem qg_GW {s : ab_q} {v : List Nat} : qG (qs_W s v) = qG s := rfl
theorem qg_GG {s : ab_q} {v : List Int32} : qG (qs_G s v) = v := rfl
theorem qg_GC {s : ab_q} {v : List Nat} : qG (qs_C s v) = qG s := rfl
theorem qg_GN {s : ab_q} {v : Nat} : qG (qs_N s v) = qG s := rfl
theorem qg_GM {s : ab_q} {v : Nat} : qG (qs_M s v) = qG s := rfl
theorem qg_GR {s : ab_q} {v : Int32} : qG (qs_R s v) = qG s := rfl
theorem qg_GY {s : ab_q} {v : Int32} : qG (qs_Y s v) = qG s := rfl
theorem qg_GD {s : ab_q} {v : Int32} : qG (qs_D s v) = qG s := rfl
theorem qg_GS {s : ab_q} {v : Int32} : qG (qs_S s v) = qG s := rfl
theorem qg_CK {s : ab_q} {v : List Nat} : qC (qs_K s v) = qC s := rfl
theorem qg_CA {s : ab_q} {v : List Nat} : qC (qs_A s v) = qC s := rfl
theorem qg_CB {s : ab_q} {v : List Nat} : qC (qs_B s v) = qC s := rfl
theorem qg_CP {s : ab_q} {v : List Nat} : qC (qs_P s v) = qC s := rfl
theorem qg_CU {s : ab_q} {v : List Nat} : qC (qs_U s v) = qC s := rfl
theorem qg_CL {s : ab_q} {v : List Nat} : qC (qs_L s v) = qC s := rfl
theorem qg_CW {s : ab_q} {v : List Nat} : qC (qs_W s v) = qC s := rfl
theorem qg_CG {s : ab_q} {v : List Int32} : qC (qs_G s v) = qC s := rfl
theorem qg_CC {s : ab_q} {v : List Nat} : qC (qs_C s v) = v := rfl
theorem qg_CN {s : ab_q} {v : Nat} : qC (qs_N s v) = qC s := rfl
theorem qg_CM {s : ab_q} {v : Nat} : qC (qs_M s v) = qC s := rfl
theorem qg_CR {s : ab_q} {v : Int32} : qC (qs_R s v) = qC s := rfl
theorem qg_CY {s : ab_q} {v : Int32} : qC (qs_Y s v) = qC s := rfl
theorem qg_CD {s : ab_q} {v : Int32} : qC (qs_D s v) = qC s := rfl
theorem qg_CS {s : ab_q} {v : Int32} : qC (qs_S s v) = qC s := rfl
theorem qg_NK {s : ab_q} {v : List Nat} : qN (qs_K s v) = qN s := rfl
theorem qg_NA {s : ab_q} {v : List Nat} : qN (qs_A s v) = qN s := rfl
theorem qg_NB {s : ab_q} {v : List Nat} : qN (qs_B s v) = qN s := rfl
theorem qg_NP {s : ab_q} {v : List Nat} : qN (qs_P s v) = qN s := rfl
theorem qg_NU {s : ab_q} {v : List Nat} : qN (qs_U s v) = qN s := rfl
theorem qg_NL {s : ab_q} {v : List Nat} : qN (qs_L s v) = qN s := rfl
theorem qg_NW {s : ab_q} {v : List Nat} : qN (qs_W s v) = qN s := rfl
theorem qg_NG {s : ab_q} {v : List Int32} : qN (qs_G s v) = qN s := rfl
theorem qg_NC {s : ab_q} {v : List Nat} : qN (qs_C s v) = qN s := rfl
theorem qg_NN {s : ab_q} {v : Nat} : qN (qs_N s v) = v := rfl
theorem qg_NM {s : ab_q} {v : Nat} : qN (qs_M s v) = qN s := rfl
theorem qg_NR {s : ab_q} {v : Int32} : qN (qs_R s v) = qN s := rfl
theorem qg_NY {s : ab_q} {v : Int32} : qN (qs_Y s v) = qN s := rfl
theorem qg_ND {s : ab_q} {v : Int32} : qN (qs_D s v) = qN s := rfl
theorem qg_NS {s : ab_q} {v : Int32} : qN (qs_S s v) = qN s := rfl
theorem qg_MK {s : ab_q} {v : List Nat} : qM (qs_K s v) = qM s := rfl
theorem qg_MA {s : ab_q} {v : List Nat} : qM (qs_A s v) = qM s := rfl
theorem qg_MB {s : ab_q} {v : List Nat} : qM (qs_B s v) = qM s := rfl
theorem qg_MP {s : ab_q} {v : List Nat} : qM (qs_P s v) = qM s := rfl
theorem qg_MU {s : ab_q} {v : List Nat} : qM (qs_U s v) = qM s := rfl
theorem qg_ML {s : ab_q} {v : List Nat} : qM (qs_L s v) = qM s := rfl
theorem qg_MW {s : ab_q} {v : List Nat} : qM (qs_W s v) = qM s := rfl
theorem qg_MG {s : ab_q} {v : List Int32} : qM (qs_G s v) = qM s := rfl
theorem qg_MC {s : ab_q} {v : List Nat} : qM (qs_C s v) = qM s := rfl
theorem qg_MN {s : ab_q} {v : Nat} : qM (qs_N s v) = qM s := rfl
theorem qg_MM {s : ab_q} {v : Nat} : qM (qs_M s v) = v := rfl
theorem qg_MR {s : ab_q} {v : Int32} : qM (qs_R s v) = qM s := rfl
theorem qg_MY {s : ab_q} {v : Int32} : qM (qs_Y s v) = qM s := rfl
theorem qg_MD {s : ab_q} {v : Int32} : qM (qs_D s v) = qM s := rfl
theorem qg_MS {s : ab_q} {v : Int32} : qM (qs_S s v) = qM s := rfl
theorem qg_RK {s : ab_q} {v : List Nat} : qR (qs_K s v) = qR s := rfl
theorem qg_RA {s : ab_q} {v : List Nat} : qR (qs_A s v) = qR s := rfl
theorem qg_RB {s : ab_q} {v : List Nat} : qR (qs_B s v) = qR s := rfl
theorem qg_RP {s : ab_q} {v : List Nat} : qR (qs_P s v) = qR s := rfl
theorem qg_RU {s : ab_q} {v : List Nat} : qR (qs_U s v) = qR s := rfl
theorem qg_RL {s : ab_q} {v : List Nat} : qR (qs_L s v) = qR s := rfl
theorem qg_RW {s : ab_q} {v : List Nat} : qR (qs_W s v) = qR s := rfl
theorem qg_RG {s : ab_q} {v : List Int32} : qR (qs_G s v) = qR s := rfl
theorem qg_RC {s : ab_q} {v : List Nat} : qR (qs_C s v) = qR s := rfl
theorem qg_RN {s : ab_q} {v : Nat} : qR (qs_N s v) = qR s := rfl
theorem qg_RM {s : ab_q} {v : Nat} : qR (qs_M s v) = qR s := rfl
theorem qg_RR {s : ab_q} {v : Int32} : qR (qs_R s v) = v := rfl
theorem qg_RY {s : ab_q} {v : Int32} : qR (qs_Y s v) = qR s := rfl
theorem qg_RD {s : ab_q} {v : Int32} : qR (qs_D s v) = qR s := rfl
theorem qg_RS {s : ab_q} {v : Int32} : qR (qs_S s v) = qR s := rfl
theorem qg_YK {s : ab_q} {v : List Nat} : qY (qs_K s v) = qY s := rfl
theorem qg_YA {s : ab_q} {v : List Nat} : qY (qs_A s v) = qY s := rfl
theorem qg_YB {s : ab_q} {v : List Nat} : qY (qs_B s v) = qY s := rfl
theorem qg_YP {s : ab_q} {v : List Nat} : qY (qs_P s v) = qY s := rfl
theorem qg_YU {s : ab_q} {v : List Nat} : qY (qs_U s v) = qY s := rfl
theorem qg_YL {s : ab_q} {v : List Nat} : qY (qs_L s v) = qY s := rfl
theorem qg_YW {s : ab_q} {v : List Nat} : qY (qs_W s v) = qY s := rfl
theorem qg_YG {s : ab_q} {v : List Int32} : qY (qs_G s v) = qY s := rfl
theorem qg_YC {s : ab_q} {v : List Nat} : qY (qs_C s v) = qY s := rfl
theorem qg_YN {s : ab_q} {v : Nat} : qY (qs_N s v) = qY s := rfl
theorem qg_YM {s : ab_q} {v : Nat} : qY (qs_M s v) = qY s := rfl
theorem qg_YR {s : ab_q} {v : Int32} : qY (qs_R s v) = qY s := rfl
theorem qg_YY {s : ab_q} {v : Int32} : qY (qs_Y s v) = v := rfl
theorem qg_YD {s : ab_q} {v : Int32} : qY (qs_D s v) = qY s := rfl
theorem qg_YS {s : ab_q} {v : Int32} : qY (qs_S s v) = qY s := rfl
theorem qg_DK {s : ab_q} {v : List Nat} : qD (qs_K s v) = qD s := rfl
theorem qg_DA {s : ab_q} {v : List Nat} : qD (qs_A s v) = qD s := rfl
theorem qg_DB {s : ab_q} {v : List Nat} : qD (qs_B s v) = qD s := rfl
theorem qg_DP {s : ab_q} {v : List Nat} : qD (qs_P s v) = qD s := rfl
theorem qg_DU {s : ab_q} {v : List Nat} : qD (qs_U s v) = qD s := rfl
theorem qg_DL {s : ab_q} {v : List Nat} : qD (qs_L s v) = qD s := rfl
theorem qg_DW {s : ab_q} {v : List Nat} : qD (qs_W s v) = qD s := rfl
theorem qg_DG {s : ab_q} {v : List Int32} : qD (qs_G s v) = qD s := rfl
theorem qg_DC {s : ab_q} {v : List Nat} : qD (qs_C s v) = qD s := rfl
theorem qg_DN {s : ab_q} {v : Nat} : qD (qs_N s v) = qD s := rfl
theorem qg_DM {s : ab_q} {v : Nat} : qD (qs_M s v) = qD s := rfl
theorem qg_DR {s : ab_q} {v : Int32} : qD (qs_R s v) = qD s := rfl
theorem qg_DY {s : ab_q} {v : Int32} : qD (qs_Y s v) = qD s := rfl
theorem qg_DD {s : ab_q} {v : Int32} : qD (qs_D s v) = v := rfl
theorem qg_DS {s : ab_q} {v : Int32} : qD (qs_S s v) = qD s := rfl
theorem qg_SK {s : ab_q} {v : List Nat} : qS (qs_K s v) = qS s := rfl
theorem qg_SA {s : ab_q} {v : List Nat} : qS (qs_A s v) = qS s := rfl
theorem qg_SB {s : ab_q} {v : List Nat} : qS (qs_B s v) = qS s := rfl
theorem qg_SP {s : ab_q} {v : List Nat} : qS (qs_P s v) = qS s := rfl
theorem qg_SU {s : ab_q} {v : List Nat} : qS (qs_U s v) = qS s := rfl
theorem qg_SL {s : ab_q} {v : List Nat} : qS (qs_L s v) = qS s := rfl
theorem qg_SW {s : ab_q} {v : List Nat} : qS (qs_W s v) = qS s := rfl
theorem qg_SG {s : ab_q} {v : List Int32} : qS (qs_G s v) = qS s := rfl
theorem qg_SC {s : ab_q} {v : List Nat} : qS (qs_C s v) = qS s := rfl
theorem qg_SN {s : ab_q} {v : Nat} : qS (qs_N s v) = qS s := rfl
theorem qg_SM {s : ab_q} {v : Nat} : qS (qs_M s v) = qS s := rfl
theorem qg_SR {s : ab_q} {v : Int32} : qS (qs_R s v) = qS s := rfl
theorem qg_SY {s : ab_q} {v : Int32} : qS (qs_Y s v) = qS s := rfl
theorem qg_SD {s : ab_q} {v : Int32} : qS (qs_D s v) = qS s := rfl
theorem qg_SS {s : ab_q} {v : Int32} : qS (qs_S s v) = v := rfl
section PT
variable {im : Int32} {lf : Int32} {s : ab_q} {d : ab_q} {k : ab_q} {ls : List Int32} {rf : Int32} {rz : Int32} {ra : Int32} {rn : Int32} {rq : ab_q} {lt : List Int32} {m1 : Int32} {m2 : Int32} {m3 : Int32} {m4 : Int32} {bd : List Int32} {fc : List Int32} {hd : Nat → Int32} {sz : Nat → Int32} {el : Nat → List Int64} {t : ab_q} {g : Nat → Int32} {fm : List Int32} {hm : List Nat} {so : List Nat} {si : List Nat} {sh : List Int32} {ce : List Int64} {ca : List Int64} {td : List Int32} {wa : List Int32} {kp : List Int32} {la : List Int32} {bf : List Int32} {oo : List Int32} {bo : List Int32} {pw : List Int32} {ow : List Int32} {tr : List Int32}
theorem w_pt1_K {v : List Nat} : (ww im lf s d k ls rf rz ra rn rq lt m1 m2 m3 m4 bd fc hd sz el t g fm hm so si sh ce ca td wa kp la bf oo bo pw ow tr).set 2 (.inl (v.map nI)) = ww im lf (qs_K s v) d k ls rf rz ra rn rq lt m1 m2 m3 m4 bd fc hd sz el t g fm hm so si sh ce ca td wa kp la bf oo bo pw ow tr := rfl
theorem w_pt1_A {v : List Nat} : (ww im lf s d k ls rf rz ra rn rq lt m1 m2 m3 m4 bd fc hd sz el t g fm hm so si sh ce ca td wa kp la bf oo bo pw ow tr).set 3 (.inl (v.map nI)) = ww im lf (qs_A s v) d k ls rf rz ra rn rq lt m1 m2 m3 m4 bd fc hd sz el t g fm hm so si sh ce ca td wa kp la bf oo bo pw ow tr := rfl
theorem w_pt1_B {v : List Nat} : (ww im lf s d k ls rf rz ra rn rq lt m1 m2 m3 m4 bd fc hd sz el t g fm hm so si sh ce ca td wa kp la bf oo bo pw ow tr).set 4 (.inl (v.map nI)) = ww im lf (qs_B s v) d k ls rf rz ra rn rq lt m1 m2 m3 m4 bd fc hd sz el t g fm hm so si sh ce ca td wa kp la bf oo bo pw ow tr := rfl
theorem w_pt1_P {v : List Nat} : (ww im lf s d k ls rf rz ra rn rq lt m1 m2 m3 m4 bd fc hd sz el t g fm hm so si sh ce ca td wa kp la bf oo bo pw ow tr).set 5 (.inl (v.map nI)) = ww im lf (qs_P s v) d k ls rf rz ra rn rq lt m1 m2 m3 m4 bd fc hd sz el t g fm hm so si sh ce ca td wa kp la bf oo bo pw ow tr := rfl
theorem w_pt1_U {v : List Nat} : (ww im lf s d k ls rf rz ra rn rq lt m1 m2 m3 m4 bd fc hd sz el t g fm hm so si sh ce ca td wa kp la bf oo bo pw ow tr).set 6 (.inl (v.map nI)) = ww im lf (qs_U s v) d k ls rf rz ra rn rq lt m1 m2 m3 m4 bd fc hd sz el t g fm hm so si sh ce ca td wa kp la bf oo bo pw ow tr := rfl
theorem w_pt1_L {v : List Nat} : (ww im lf s d k ls rf rz ra rn rq lt m1 m2 m3 m4 bd fc hd sz el t g fm hm so si sh ce ca td wa kp la bf oo bo pw ow tr).set 7 (.inl (v.map nI)) = ww im lf (qs_L s v) d k ls rf rz ra rn rq lt m1 m2 m3 m4 bd fc hd sz el t g fm hm so si sh ce ca td wa kp la bf oo bo pw ow tr := rfl
theorem w_pt1_W {v : List Nat} : (ww im lf s d k ls rf rz ra rn rq lt m1 m2 m3 m4 bd fc hd sz el t g fm hm so si sh ce ca td wa kp la bf oo bo pw ow tr).set 8 (.inl (v.map nI)) = ww im lf (qs_W s v) d k ls rf rz ra rn rq lt m1 m2 m3 m4 bd fc hd sz el t g fm hm so si sh ce ca td wa kp la bf oo bo pw ow tr := rfl
theorem w_pt1_G {v : List Int32} : (ww im lf s d k ls rf rz ra rn rq lt m1 m2 m3 m4 bd fc hd sz el t g fm hm so si sh ce ca td wa kp la bf oo bo pw ow tr).set 9 (.inl v) = ww im lf (qs_G s v) d k ls rf rz ra rn rq lt m1 m2 m3 m4 bd fc hd sz el t g fm hm so si sh ce ca td wa kp la bf oo bo pw ow tr := rfl
theorem w_pt1_C {v : List Nat} : (ww im lf s d k ls rf rz ra rn rq lt m1 m2 m3 m4 bd fc hd sz el t g fm hm so si sh ce ca td wa kp la bf oo bo pw ow tr).set 10 (.inl (v.map nI)) = ww im lf (qs_C s v) d k ls rf rz ra rn rq lt m1 m2 m3 m4 bd fc hd sz el t g fm hm so si sh ce ca td wa kp la bf oo bo pw ow tr := rfl
theorem w_pt1_N {v : Nat} : (ww im lf s d k ls rf rz ra rn rq lt m1 m2 m3 m4 bd fc hd sz el t g fm hm so si sh ce ca td wa kp la bf oo bo pw ow tr).set 1 (.inr (.inr (.inr (4, List.set [.ref 2, .ref 3, .ref 4, .ref 5, .ref 6, .ref 7, .ref 8, .ref 9, .ref 10, .int (nI (qN s)), .int (nI (qM s)), .int (qR s), .int (qY s), .int (qD s), .int (qS s)] 9 (.int (nI v)))))) = ww im lf (qs_N s v) d k ls rf rz ra rn rq lt m1 m2 m3 m4 bd fc hd sz el t g fm hm so si sh ce ca td wa kp la bf oo bo pw ow tr := rfl
theorem w_pt1_M {v : Nat} : (ww im lf s d k ls rf rz ra rn rq lt m1 m2 m3 m4 bd fc hd sz el t g fm hm so si sh ce ca td wa kp la bf oo bo pw ow tr).set 1 (.inr (.inr (.inr (4, List.set [.ref 2, .ref 3, .ref 4, .ref 5, .ref 6, .ref 7, .ref 8, .ref 9, .ref 10, .int (nI (qN s)), .int (nI (qM s)), .int (qR s), .int (qY s), .int (qD s), .int (qS s)] 10 (.int (nI v)))))) = ww im lf (qs_M s v) d k ls rf rz ra rn rq lt m1 m2 m3 m4 bd fc hd sz el t g fm hm so si sh ce ca td wa kp la bf oo bo pw ow tr := rfl
theorem w_pt1_R {v : Int32} : (ww im lf s d k ls rf rz ra rn rq lt m1 m2 m3 m4 bd fc hd sz el t g fm hm so si sh ce ca td wa kp la bf oo bo pw ow tr).set 1 (.inr (.inr (.inr (4, List.set [.ref 2, .ref 3, .ref 4, .ref 5, .ref 6, .ref 7, .ref 8, .ref 9, .ref 10, .int (nI (qN s)), .int (nI (qM s)), .int (qR s), .int (qY s), .int (qD s), .int (qS s)] 11 (.int v))))) = ww im lf (qs_R s v) d k ls rf rz ra rn rq lt m1 m2 m3 m4 bd fc hd sz el t g fm hm so si sh ce ca td wa kp la bf oo bo pw ow tr := rfl
theorem w_pt1_Y {v : Int32} : (ww im lf s d k ls rf rz ra rn rq lt m1 m2 m3 m4 bd fc hd sz el t g fm hm so si sh ce ca td wa kp la bf oo bo pw ow tr).set 1 (.inr (.inr (.inr (4, List.set [.ref 2, .ref 3, .ref 4, .ref 5, .ref 6, .ref 7, .ref 8, .ref 9, .ref 10, .int (nI (qN s)), .int (nI (qM s)), .int (qR s), .int (qY s), .int (qD s), .int (qS s)] 12 (.int v))))) = ww im lf (qs_Y s v) d k ls rf rz ra rn rq lt m1 m2 m3 m4 bd fc hd sz el t g fm hm so si sh ce ca td wa kp la bf oo bo pw ow tr := rfl
theorem w_pt1_D {v : Int32} : (ww im lf s d k ls rf rz ra rn rq lt m1 m2 m3 m4 bd fc hd sz el t g fm hm so si sh ce ca td wa kp la bf oo bo pw ow tr).set 1 (.inr (.inr (.inr (4, List.set [.ref 2, .ref 3, .ref 4, .ref 5, .ref 6, .ref 7, .ref 8, .ref 9, .ref 10, .int (nI (qN s)), .int (nI (qM s)), .int (qR s), .int (qY s), .int (qD s), .int (qS s)] 13 (.int v))))) = ww im lf (qs_D s v) d k ls rf rz ra rn rq lt m1 m2 m3 m4 bd fc hd sz el t g fm hm so si sh ce ca td wa kp la bf oo bo pw ow tr := rfl
theorem w_pt1_S {v : Int32} : (ww im lf s d k ls rf rz ra rn rq lt m1 m2 m3 m4 bd fc hd sz el t g fm hm so si sh ce ca td wa kp la bf oo bo pw ow tr).set 1 (.inr (.inr (.inr (4, List.set [.ref 2, .ref 3, .ref 4, .ref 5, .ref 6, .ref 7, .ref 8, .ref 9, .ref 10, .int (nI (qN s)), .int (nI (qM s)), .int (qR s), .int (qY s), .int (qD s), .int (qS s)] 14 (.int v))))) = ww im lf (qs_S s v) d k ls rf rz ra rn rq lt m1 m2 m3 m4 bd fc hd sz el t g fm hm so si sh ce ca td wa kp la bf oo bo pw ow tr := rfl
theorem w_pt11_K {v : List Nat} : (ww im lf s d k ls rf rz ra rn rq lt m1 m2 m3 m4 bd fc hd sz el t g fm hm so si sh ce ca td wa kp la bf oo bo pw ow tr).set 12 (.inl (v.map nI)) = ww im lf s (qs_K d v) k ls rf rz ra rn rq lt m1 m2 m3 m4 bd fc hd sz el t g fm hm so si sh ce ca td wa kp la bf oo bo pw ow tr := rfl
theorem w_pt11_A {v : List Nat} : (ww im lf s d k ls rf rz ra rn rq lt m1 m2 m3 m4 bd fc hd sz el t g fm hm so si sh ce ca td wa kp la bf oo bo pw ow tr).set 13 (.inl (v.map nI)) = ww im lf s (qs_A d v) k ls rf rz ra rn rq lt m1 m2 m3 m4 bd fc hd sz el t g fm hm so si sh ce ca td wa kp la bf oo bo pw ow tr := rfl
theorem w_pt11_B {v : List Nat} : (ww im lf s d k ls rf rz ra rn rq lt m1 m2 m3 m4 bd fc hd sz el t g fm hm so si sh ce ca td wa kp la bf oo bo pw ow tr).set 14 (.inl (v.map nI)) = ww im lf s (qs_B d v) k ls rf rz ra rn rq lt m1 m2 m3 m4 bd fc hd sz el t g fm hm so si sh ce ca td wa kp la bf oo bo pw ow tr := rfl
theorem w_pt11_P {v : List Nat} : (ww im lf s d k ls rf rz ra rn rq lt m1 m2 m3 m4 bd fc hd sz el t g fm hm so si sh ce ca td wa kp la bf oo bo pw ow tr).set 15 (.inl (v.map nI)) = ww im lf s (qs_P d v) k ls rf rz ra rn rq lt m1 m2 m3 m4 bd fc hd sz el t g fm hm so si sh ce ca td wa kp la bf oo bo pw ow tr := rfl
theorem w_pt11_U {v : List Nat} : (ww im lf s d k ls rf rz ra rn rq lt m1 m2 m3 m4 bd fc hd sz el t g fm hm so si sh ce ca td wa kp la bf oo bo pw ow tr).set 16 (.inl (v.map nI)) = ww im lf s (qs_U d v) k ls rf rz ra rn rq lt m1 m2 m3 m4 bd fc hd sz el t g fm hm so si sh ce ca td wa kp la bf oo bo pw ow tr := rfl
theorem w_pt11_L {v : List Nat} : (ww im lf s d k ls rf rz ra rn rq lt m1 m2 m3 m4 bd fc hd sz el t g fm hm so si sh ce ca td wa kp la bf oo bo pw ow tr).set 17 (.inl (v.map nI)) = ww im lf s (qs_L d v) k ls rf rz ra rn rq lt m1 m2 m3 m4 bd fc hd sz el t g fm hm so si sh ce ca td wa kp la bf oo bo pw ow tr := rfl
theorem w_pt11_W {v : List Nat} : (ww im lf s d k ls rf rz ra rn rq lt m1 m2 m3 m4 bd fc hd sz el t g fm hm so si sh ce ca td wa kp la bf oo bo pw ow tr).set 18 (.inl (v.map nI)) = ww im lf s (qs_W d v) k ls rf rz ra rn rq lt m1 m2 m3 m4 bd fc hd sz el t g fm hm so si sh ce ca td wa kp la bf oo bo pw ow tr := rfl
theorem w_pt11_G {v : List Int32} : (ww im lf s d k ls rf rz ra rn rq lt m1 m2 m3 m4 bd fc hd sz el t g fm hm so si sh ce ca td wa kp la bf oo bo pw ow tr).set 19 (.inl v) = ww im lf s (qs_G d v) k ls rf rz ra rn rq lt m1 m2 m3 m4 bd fc hd sz el t g fm hm so si sh ce ca td wa kp la bf oo bo pw ow tr := rfl
theorem w_pt11_C {v : List Nat} : (ww im lf s d k ls rf rz ra rn rq lt m1 m2 m3 m4 bd fc hd sz el t g fm hm so si sh ce ca td wa kp la bf oo bo pw ow tr).set 20 (.inl (v.map nI)) = ww im lf s (qs_C d v) k ls rf rz ra rn rq lt m1 m2 m3 m4 bd fc hd sz el t g fm hm so si sh ce ca td wa kp la bf oo bo pw ow tr := rfl
theorem w_pt11_N {v : Nat} : (ww im lf s d k ls rf rz ra rn rq lt m1 m2 m3 m4 bd fc hd sz el t g fm hm so si sh ce ca td wa kp la bf oo bo pw ow tr).set 11 (.inr (.inr (.inr (4, List.set [.ref 12, .ref 13, .ref 14, .ref 15, .ref 16, .ref 17, .ref 18, .ref 19, .ref 20, .int (nI (qN d)), .int (nI (qM d)), .int (qR d), .int (qY d), .int (qD d), .int (qS d)] 9 (.int (nI v)))))) = ww im lf s (qs_N d v) k ls rf rz ra rn rq lt m1 m2 m3 m4 bd fc hd sz el t g fm hm so si sh ce ca td wa kp la bf oo bo pw ow tr := rfl
theorem w_pt11_M {v : Nat} : (ww im lf s d k ls rf rz ra rn rq lt m1 m2 m3 m4 bd fc hd sz el t g fm hm so si sh ce ca td wa kp la bf oo bo pw ow tr).set 11 (.inr (.inr (.inr (4, List.set [.ref 12, .ref 13, .ref 14, .ref 15, .ref 16, .ref 17, .ref 18, .ref 19, .ref 20, .int (nI (qN d)), .int (nI (qM d)), .int (qR d), .int (qY d), .int (qD d), .int (qS d)] 10 (.int (nI v)))))) = ww im lf s (qs_M d v) k ls rf rz ra rn rq lt m1 m2 m3 m4 bd fc hd sz el t g fm hm so si sh ce ca td wa kp la bf oo bo pw ow tr := rfl
theorem w_pt11_R {v : Int32} : (ww im lf s d k ls rf rz ra rn rq lt m1 m2 m3 m4 bd fc hd sz el t g fm hm so si sh ce ca td wa kp la bf oo bo pw ow tr).set 11 (.inr (.inr (.inr (4, List.set [.ref 12, .ref 13, .ref 14, .ref 15, .ref 16, .ref 17, .ref 18, .ref 19, .ref 20, .int (nI (qN d)), .int (nI (qM d)), .int (qR d), .int (qY d), .int (qD d), .int (qS d)] 11 (.int v))))) = ww im lf s (qs_R d v) k ls rf rz ra rn rq lt m1 m2 m3 m4 bd fc hd sz el t g fm hm so si sh ce ca td wa kp la bf oo bo pw ow tr := rfl
theorem w_pt11_Y {v : Int32} : (ww im lf s d k ls rf rz ra rn rq lt m1 m2 m3 m4 bd fc hd sz el t g fm hm so si sh ce ca td wa kp la bf oo bo pw ow tr).set 11 (.inr (.inr (.inr (4, List.set [.ref 12, .ref 13, .ref 14, .ref 15, .ref 16, .ref 17, .ref 18, .ref 19, .ref 20, .int (nI (qN d)), .int (nI (qM d)), .int (qR d), .int (qY d), .int (qD d), .int (qS d)] 12 (.int v))))) = ww im lf s (qs_Y d v) k ls rf rz ra rn rq lt m1 m2 m3 m4 bd fc hd sz el t g fm hm so si sh ce ca td wa kp la bf oo bo pw ow tr := rfl
theorem w_pt11_D {v : Int32} : (ww im lf s d k ls rf rz ra rn rq lt m1 m2 m3 m4 bd fc hd sz el t g fm hm so si sh ce ca td wa kp la bf oo bo pw ow tr).set 11 (.inr (.inr (.inr (4, List.set [.ref 12, .ref 13, .ref 14, .ref 15, .ref 16, .ref 17, .ref 18, .ref 19, .ref 20, .int (nI (qN d)), .int (nI (qM d)), .int (qR d), .int (qY d), .int (qD d), .int (qS d)] 13 (.int v))))) = ww im lf s (qs_D d v) k ls rf rz ra rn rq lt m1 m2 m3 m4 bd fc hd sz el t g fm hm so si sh ce ca td wa kp la bf oo bo pw ow tr := rfl
theorem w_pt11_S {v : Int32} : (ww im lf s d k ls rf rz ra rn rq lt m1 m2 m3 m4 bd fc hd sz el t g fm hm so si sh ce ca td wa kp la bf oo bo pw ow tr).set 11 (.inr (.inr (.inr (4, List.set [.ref 12, .ref 13, .ref 14, .ref 15, .ref 16, .ref 17, .ref 18, .ref 19, .ref 20, .int (nI (qN d)), .int (nI (qM d)), .int (qR d), .int (qY d), .int (qD d), .int (qS d)] 14 (.int v))))) = ww im lf s (qs_S d v) k ls rf rz ra rn rq lt m1 m2 m3 m4 bd fc hd sz el t g fm hm so si sh ce ca td wa kp la bf oo bo pw ow tr := rfl
theorem w_pt21_K {v : List Nat} : (ww im lf s d k ls rf rz ra rn rq lt m1 m2 m3 m4 bd fc hd sz el t g fm hm so si sh ce ca td wa kp la bf oo bo pw ow tr).set 22 (.inl (v.map nI)) = ww im lf s d (qs_K k v) ls rf rz ra rn rq lt m1 m2 m3 m4 bd fc hd sz el t g fm hm so si sh ce ca td wa kp la bf oo bo pw ow tr := rfl
theorem w_pt21_A {v : List Nat} : (ww im lf s d k ls rf rz ra rn rq lt m1 m2 m3 m4 bd fc hd sz el t g fm hm so si sh ce ca td wa kp la bf oo bo pw ow tr).set 23 (.inl (v.map nI)) = ww im lf s d (qs_A k v) ls rf rz ra rn rq lt m1 m2 m3 m4 bd fc hd sz el t g fm hm so si sh ce ca td wa kp la bf oo bo pw ow tr := rfl
theorem w_pt21_B {v : List Nat} : (ww im lf s d k ls rf rz ra rn rq lt m1 m2 m3 m4 bd fc hd sz el t g fm hm so si sh ce ca td wa kp la bf oo bo pw ow tr).set 24 (.inl (v.map nI)) = ww im lf s d (qs_B k v) ls rf rz ra rn rq lt m1 m2 m3 m4 bd fc hd sz el t g fm hm so si sh ce ca td wa kp la bf oo bo pw ow tr := rfl
theorem w_pt21_P {v : List Nat} : (ww im lf s d k ls rf rz ra rn rq lt m1 m2 m3 m4 bd fc hd sz el t g fm hm so si sh ce ca td wa kp la bf oo bo pw ow tr).set 25 (.inl (v.map nI)) = ww im lf s d (qs_P k v) ls rf rz ra rn rq lt m1 m2 m3 m4 bd fc hd sz el t g fm hm so si sh ce ca td wa kp la bf oo bo pw ow tr := rfl
theorem w_pt21_U {v : List Nat} : (ww im lf s d k ls rf rz ra rn rq lt m1 m2 m3 m4 bd fc hd sz el t g fm hm so si sh ce ca td wa kp la bf oo bo pw ow tr).set 26 (.inl (v.map nI)) = ww im lf s d (qs_U k v) ls rf rz ra rn rq lt m1 m2 m3 m4 bd fc hd sz el t g fm hm so si sh ce ca td wa kp la bf oo bo pw ow tr := rfl
theorem w_pt21_L {v : List Nat} : (ww im lf s d k ls rf rz ra rn rq lt m1 m2 m3 m4 bd fc hd sz el t g fm hm so si sh ce ca td wa kp la bf oo bo pw ow tr).set 27 (.inl (v.map nI)) = ww im lf s d (qs_L k v) ls rf rz ra rn rq lt m1 m2 m3 m4 bd fc hd sz el t g fm hm so si sh ce ca td wa kp la bf oo bo pw ow tr := rfl
theorem w_pt21_W {v : List Nat} : (ww im lf s d k ls rf rz ra rn rq lt m1 m2 m3 m4 bd fc hd sz el t g fm hm so si sh ce ca td wa kp la bf oo bo pw ow tr).set 28 (.inl (v.map nI)) = ww im lf s d (qs_W k v) ls rf rz ra rn rq lt m1 m2 m3 m4 bd fc hd sz el t g fm hm so si sh ce ca td wa kp la bf oo bo pw ow tr := rfl
theorem w_pt21_G {v : List Int32} : (ww im lf s d k ls rf rz ra rn rq lt m1 m2 m3 m4 bd fc hd sz el t g fm hm so si sh ce ca td wa kp la bf oo bo pw ow tr).set 29 (.inl v) = ww im lf s d (qs_G k v) ls rf rz ra rn rq lt m1 m2 m3 m4 bd fc hd sz el t g fm hm so si sh ce ca td wa kp la bf oo bo pw ow tr := rfl
theorem w_pt21_C {v : List Nat} : (ww im lf s d k ls rf rz ra rn rq lt m1 m2 m3 m4 bd fc hd sz el t g fm hm so si sh ce ca td wa kp la bf oo bo pw ow tr).set 30 (.inl (v.map nI)) = ww im lf s d (qs_C k v) ls rf rz ra rn rq lt m1 m2 m3 m4 bd fc hd sz el t g fm hm so si sh ce ca td wa kp la bf oo bo pw ow tr := rfl
theorem w_pt21_N {v : Nat} : (ww im lf s d k ls rf rz ra rn rq lt m1 m2 m3 m4 bd fc hd sz el t g fm hm so si sh ce ca td wa kp la bf oo bo pw ow tr).set 21 (.inr (.inr (.inr (4, List.set [.ref 22, .ref 23, .ref 24, .ref 25, .ref 26, .ref 27, .ref 28, .ref 29, .ref 30, .int (nI (qN k)), .int (nI (qM k)), .int (qR k), .int (qY k), .int (qD k), .int (qS k)] 9 (.int (nI v)))))) = ww im lf s d (qs_N k v) ls rf rz ra rn rq lt m1 m2 m3 m4 bd fc hd sz el t g fm hm so si sh ce ca td wa kp la bf oo bo pw ow tr := rfl
theorem w_pt21_M {v : Nat} : (ww im lf s d k ls rf rz ra rn rq lt m1 m2 m3 m4 bd fc hd sz el t g fm hm so si sh ce ca td wa kp la bf oo bo pw ow tr).set 21 (.inr (.inr (.inr (4, List.set [.ref 22, .ref 23, .ref 24, .ref 25, .ref 26, .ref 27, .ref 28, .ref 29, .ref 30, .int (nI (qN k)), .int (nI (qM k)), .int (qR k), .int (qY k), .int (qD k), .int (qS k)] 10 (.int (nI v)))))) = ww im lf s d (qs_M k v) ls rf rz ra rn rq lt m1 m2 m3 m4 bd fc hd sz el t g fm hm so si sh ce ca td wa kp la bf oo bo pw ow tr := rfl
theorem w_pt21_R {v : Int32} : (ww im lf s d k ls rf rz ra rn rq lt m1 m2 m3 m4 bd fc hd sz el t g fm hm so si sh ce ca td wa kp la bf oo bo pw ow tr).set 21 (.inr (.inr (.inr (4, List.set [.ref 22, .ref 23, .ref 24, .ref 25, .ref 26, .ref 27, .ref 28, .ref 29, .ref 30, .int (nI (qN k)), .int (nI (qM k)), .int (qR k), .int (qY k), .int (qD k), .int (qS k)] 11 (.int v))))) = ww im lf s d (qs_R k v) ls rf rz ra rn rq lt m1 m2 m3 m4 bd fc hd sz el t g fm hm so si sh ce ca td wa kp la bf oo bo pw ow tr := rfl
theorem w_pt21_Y {v : Int32} : (ww im lf s d k ls rf rz ra rn rq lt m1 m2 m3 m4 bd fc hd sz el t g fm hm so si sh ce ca td wa kp la bf oo bo pw ow tr).set 21 (.inr (.inr (.inr (4, List.set [.ref 22, .ref 23, .ref 24, .ref 25, .ref 26, .ref 27, .ref 28, .ref 29, .ref 30, .int (nI (qN k)), .int (nI (qM k)), .int (qR k), .int (qY k), .int (qD k), .int (qS k)] 12 (.int v))))) = ww im lf s d (qs_Y k v) ls rf rz ra rn rq lt m1 m2 m3 m4 bd fc hd sz el t g fm hm so si sh ce ca td wa kp la bf oo bo pw ow tr := rfl
theorem w_pt21_D {v : Int32} : (ww im lf s d k ls rf rz ra rn rq lt m1 m2 m3 m4 bd fc hd sz el t g fm hm so si sh ce ca td wa kp la bf oo bo pw ow tr).set 21 (.inr (.inr (.inr (4, List.set [.ref 22, .ref 23, .ref 24, .ref 25, .ref 26, .ref 27, .ref 28, .ref 29, .ref 30, .int (nI (qN k)), .int (nI (qM k)), .int (qR k), .int (qY k), .int (qD k), .int (qS k)] 13 (.int v))))) = ww im lf s d (qs_D k v) ls rf rz ra rn rq lt m1 m2 m3 m4 bd fc hd sz el t g fm hm so si sh ce ca td wa kp la bf oo bo pw ow tr := rfl
theorem w_pt21_S {v : Int32} : (ww im lf s d k ls rf rz ra rn rq lt m1 m2 m3 m4 bd fc hd sz el t g fm hm so si sh ce ca td wa kp la bf oo bo pw ow tr).set 21 (.inr (.inr (.inr (4, List.set [.ref 22, .ref 23, .ref 24, .ref 25, .ref 26, .ref 27, .ref 28, .ref 29, .ref 30, .int (nI (qN k)), .int (nI (qM k)), .int (qR k), .int (qY k), .int (qD k), .int (qS k)] 14 (.int v))))) = ww im lf s d (qs_S k v) ls rf rz ra rn rq lt m1 m2 m3 m4 bd fc hd sz el t g fm hm so si sh ce ca td wa kp la bf oo bo pw ow tr := rfl
theorem w_pt35_K {v : List Nat} : (ww im lf s d k ls rf rz ra rn rq lt m1 m2 m3 m4 bd fc hd sz el t g fm hm so si sh ce ca td wa kp la bf oo bo pw ow tr).set 36 (.inl (v.map nI)) = ww im lf s d k ls rf rz ra rn (qs_K rq v) lt m1 m2 m3 m4 bd fc hd sz el t g fm hm so si sh ce ca td wa kp la bf oo bo pw ow tr := rfl
theorem w_pt35_A {v : List Nat} : (ww im lf s d k ls rf rz ra rn rq lt m1 m2 m3 m4 bd fc hd sz el t g fm hm so si sh ce ca td wa kp la bf oo bo pw ow tr).set 37 (.inl (v.map nI)) = ww im lf s d k ls rf rz ra rn (qs_A rq v) lt m1 m2 m3 m4 bd fc hd sz el t g fm hm so si sh ce ca td wa kp la bf oo bo pw ow tr := rfl
theorem w_pt35_B {v : List Nat} : (ww im lf s d k ls rf rz ra rn rq lt m1 m2 m3 m4 bd fc hd sz el t g fm hm so si sh ce ca td wa kp la bf oo bo pw ow tr).set 38 (.inl (v.map nI)) = ww im lf s d k ls rf rz ra rn (qs_B rq v) lt m1 m2 m3 m4 bd fc hd sz el t g fm hm so si sh ce ca td wa kp la bf oo bo pw ow tr := rfl
theorem w_pt35_P {v : List Nat} : (ww im lf s d k ls rf rz ra rn rq lt m1 m2 m3 m4 bd fc hd sz el t g fm hm so si sh ce ca td wa kp la bf oo bo pw ow tr).set 39 (.inl (v.map nI)) = ww im lf s d k ls rf rz ra rn (qs_P rq v) lt m1 m2 m3 m4 bd fc hd sz el t g fm hm so si sh ce ca td wa kp la bf oo bo pw ow tr := rfl
theorem w_pt35_U {v : List Nat} : (ww im lf s d k ls rf rz ra rn rq lt m1 m2 m3 m4 bd fc hd sz el t g fm hm so si sh ce ca td wa kp la bf oo bo pw ow tr).set 40 (.inl (v.map nI)) = ww im lf s d k ls rf rz ra rn (qs_U rq v) lt m1 m2 m3 m4 bd fc hd sz el t g fm hm so si sh ce ca td wa kp la bf oo bo pw ow tr := rfl
theorem w_pt35_L {v : List Nat} : (ww im lf s d k ls rf rz ra rn rq lt m1 m2 m3 m4 bd fc hd sz el t g fm hm so si sh ce ca td wa kp la bf oo bo pw ow tr).set 41 (.inl (v.map nI)) = ww im lf s d k ls rf rz ra rn (qs_L rq v) lt m1 m2 m3 m4 bd fc hd sz el t g fm hm so si sh ce ca td wa kp la bf oo bo pw ow tr := rfl
theorem w_pt35_W {v : List Nat} : (ww im lf s d k ls rf rz ra rn rq lt m1 m2 m3 m4 bd fc hd sz el t g fm hm so si sh ce ca td wa kp la bf oo bo pw ow tr).set 42 (.inl (v.map nI)) = ww im lf s d k ls rf rz ra rn (qs_W rq v) lt m1 m2 m3 m4 bd fc hd sz el t g fm hm so si sh ce ca td wa kp la bf oo bo pw ow tr := rfl
theorem w_pt35_G {v : List Int32} : (ww im lf s d k ls rf rz ra rn rq lt m1 m2 m3 m4 bd fc hd sz el t g fm hm so si sh ce ca td wa kp la bf oo bo pw ow tr).set 43 (.inl v) = ww im lf s d k ls rf rz ra rn (qs_G rq v) lt m1 m2 m3 m4 bd fc hd sz el t g fm hm so si sh ce ca td wa kp la bf oo bo pw ow tr := rfl
theorem w_pt35_C {v : List Nat} : (ww im lf s d k ls rf rz ra rn rq lt m1 m2 m3 m4 bd fc hd sz el t g fm hm so si sh ce ca td wa kp la bf oo bo pw ow tr).set 44 (.inl (v.map nI)) = ww im lf s d k ls rf rz ra rn (qs_C rq v) lt m1 m2 m3 m4 bd fc hd sz el t g fm hm so si sh ce ca td wa kp la bf oo bo pw ow tr := rfl
theorem w_pt35_N {v : Nat} : (ww im lf s d k ls rf rz ra rn rq lt m1 m2 m3 m4 bd fc hd sz el t g fm hm so si sh ce ca td wa kp la bf oo bo pw ow tr).set 35 (.inr (.inr (.inr (4, List.set [.ref 36, .ref 37, .ref 38, .ref 39, .ref 40, .ref 41, .ref 42, .ref 43, .ref 44, .int (nI (qN rq)), .int (nI (qM rq)), .int (qR rq), .int (qY rq), .int (qD rq), .int (qS rq)] 9 (.int (nI v)))))) = ww im lf s d k ls rf rz ra rn (qs_N rq v) lt m1 m2 m3 m4 bd fc hd sz el t g fm hm so si sh ce ca td wa kp la bf oo bo pw ow tr := rfl
theorem w_pt35_M {v : Nat} : (ww im lf s d k ls rf rz ra rn rq lt m1 m2 m3 m4 bd fc hd sz el t g fm hm so si sh ce ca td wa kp la bf oo bo pw ow tr).set 35 (.inr (.inr (.inr (4, List.set [.ref 36, .ref 37, .ref 38, .ref 39, .ref 40, .ref 41, .ref 42, .ref 43, .ref 44, .int (nI (qN rq)), .int (nI (qM rq)), .int (qR rq), .int (qY rq), .int (qD rq), .int (qS rq)] 10 (.int (nI v)))))) = ww im lf s d k ls rf rz ra rn (qs_M rq v) lt m1 m2 m3 m4 bd fc hd sz el t g fm hm so si sh ce ca td wa kp la bf oo bo pw ow tr := rfl
theorem w_pt35_R {v : Int32} : (ww im lf s d k ls rf rz ra rn rq lt m1 m2 m3 m4 bd fc hd sz el t g fm hm so si sh ce ca td wa kp la bf oo bo pw ow tr).set 35 (.inr (.inr (.inr (4, List.set [.ref 36, .ref 37, .ref 38, .ref 39, .ref 40, .ref 41, .ref 42, .ref 43, .ref 44, .int (nI (qN rq)), .int (nI (qM rq)), .int (qR rq), .int (qY rq), .int (qD rq), .int (qS rq)] 11 (.int v))))) = ww im lf s d k ls rf rz ra rn (qs_R rq v) lt m1 m2 m3 m4 bd fc hd sz el t g fm hm so si sh ce ca td wa kp la bf oo bo pw ow tr := rfl
theorem w_pt35_Y {v : Int32} : (ww im lf s d k ls rf rz ra rn rq lt m1 m2 m3 m4 bd fc hd sz el t g fm hm so si sh ce ca td wa kp la bf oo bo pw ow tr).set 35 (.inr (.inr (.inr (4, List.set [.ref 36, .ref 37, .ref 38, .ref 39, .ref 40, .ref 41, .ref 42, .ref 43, .ref 44, .int (nI (qN rq)), .int (nI (qM rq)), .int (qR rq), .int (qY rq), .int (qD rq), .int (qS rq)] 12 (.int v))))) = ww im lf s d k ls rf rz ra rn (qs_Y rq v) lt m1 m2 m3 m4 bd fc hd sz el t g fm hm so si sh ce ca td wa kp la bf oo bo pw ow tr := rfl
theorem w_pt35_D {v : Int32} : (ww im lf s d k ls rf rz ra rn rq lt m1 m2 m3 m4 bd fc hd sz el t g fm hm so si sh ce ca td wa kp la bf oo bo pw ow tr).set 35 (.inr (.inr (.inr (4, List.set [.ref 36, .ref 37, .ref 38, .ref 39, .ref 40, .ref 41, .ref 42, .ref 43, .ref 44, .int (nI (qN rq)), .int (nI (qM rq)), .int (qR rq), .int (qY rq), .int (qD rq), .int (qS rq)] 13 (.int v))))) = ww im lf s d k ls rf rz ra rn (qs_D rq v) lt m1 m2 m3 m4 bd fc hd sz el t g fm hm so si sh ce ca td wa kp la bf oo bo pw ow tr := rfl
theorem w_pt35_S {v : Int32} : (ww im lf s d k ls rf rz ra rn rq lt m1 m2 m3 m4 bd fc hd sz el t g fm hm so si sh ce ca td wa kp la bf oo bo pw ow tr).set 35 (.inr (.inr (.inr (4, List.set [.ref 36, .ref 37, .ref 38, .ref 39, .ref 40, .ref 41, .ref 42, .ref 43, .ref 44, .int (nI (qN rq)), .int (nI (qM rq)), .int (qR rq), .int (qY rq), .int (qD rq), .int (qS rq)] 14 (.int v))))) = ww im lf s d k ls rf rz ra rn (qs_S rq v) lt m1 m2 m3 m4 bd fc hd sz el t g fm hm so si sh ce ca td wa kp la bf oo bo pw ow tr := rfl
theorem w_pt65_K {v : List Nat} : (ww im lf s d k ls rf rz ra rn rq lt m1 m2 m3 m4 bd fc hd sz el t g fm hm so si sh ce ca td wa kp la bf oo bo pw ow tr).set 67 (.inl (v.map nI)) = ww im lf s d k ls rf rz ra rn rq lt m1 m2 m3 m4 bd fc hd sz el (qs_K t v) g fm hm so si sh ce ca td wa kp la bf oo bo pw ow tr := rfl
theorem w_pt65_A {v : List Nat} : (ww im lf s d k ls rf rz ra rn rq lt m1 m2 m3 m4 bd fc hd sz el t g fm hm so si sh ce ca td wa kp la bf oo bo pw ow tr).set 68 (.inl (v.map nI)) = ww im lf s d k ls rf rz ra rn rq lt m1 m2 m3 m4 bd fc hd sz el (qs_A t v) g fm hm so si sh ce ca td wa kp la bf oo bo pw ow tr := rfl
theorem w_pt65_B {v : List Nat} : (ww im lf s d k ls rf rz ra rn rq lt m1 m2 m3 m4 bd fc hd sz el t g fm hm so si sh ce ca td wa kp la bf oo bo pw ow tr).set 69 (.inl (v.map nI)) = ww im lf s d k ls rf rz ra rn rq lt m1 m2 m3 m4 bd fc hd sz el (qs_B t v) g fm hm so si sh ce ca td wa kp la bf oo bo pw ow tr := rfl
theorem w_pt65_P {v : List Nat} : (ww im lf s d k ls rf rz ra rn rq lt m1 m2 m3 m4 bd fc hd sz el t g fm hm so si sh ce ca td wa kp la bf oo bo pw ow tr).set 70 (.inl (v.map nI)) = ww im lf s d k ls rf rz ra rn rq lt m1 m2 m3 m4 bd fc hd sz el (qs_P t v) g fm hm so si sh ce ca td wa kp la bf oo bo pw ow tr := rfl
theorem w_pt65_U {v : List Nat} : (ww im lf s d k ls rf rz ra rn rq lt m1 m2 m3 m4 bd fc hd sz el t g fm hm so si sh ce ca td wa kp la bf oo bo pw ow tr).set 71 (.inl (v.map nI)) = ww im lf s d k ls rf rz ra rn rq lt m1 m2 m3 m4 bd fc hd sz el (qs_U t v) g fm hm so si sh ce ca td wa kp la bf oo bo pw ow tr := rfl
theorem w_pt65_L {v : List Nat} : (ww im lf s d k ls rf rz ra rn rq lt m1 m2 m3 m4 bd fc hd sz el t g fm hm so si sh ce ca td wa kp la bf oo bo pw ow tr).set 72 (.inl (v.map nI)) = ww im lf s d k ls rf rz ra rn rq lt m1 m2 m3 m4 bd fc hd sz el (qs_L t v) g fm hm so si sh ce ca td wa kp la bf oo bo pw ow tr := rfl
theorem w_pt65_W {v : List Nat} : (ww im lf s d k ls rf rz ra rn rq lt m1 m2 m3 m4 bd fc hd sz el t g fm hm so si sh ce ca td wa kp la bf oo bo pw ow tr).set 73 (.inl (v.map nI)) = ww im lf s d k ls rf rz ra rn rq lt m1 m2 m3 m4 bd fc hd sz el (qs_W t v) g fm hm so si sh ce ca td wa kp la bf oo bo pw ow tr := rfl
theorem w_pt65_G {v : List Int32} : (ww im lf s d k ls rf rz ra rn rq lt m1 m2 m3 m4 bd fc hd sz el t g fm hm so si sh ce ca td wa kp la bf oo bo pw ow tr).set 74 (.inl v) = ww im lf s d k ls rf rz ra rn rq lt m1 m2 m3 m4 bd fc hd sz el (qs_G t v) g fm hm so si sh ce ca td wa kp la bf oo bo pw ow tr := rfl
theorem w_pt65_C {v : List Nat} : (ww im lf s d k ls rf rz ra rn rq lt m1 m2 m3 m4 bd fc hd sz el t g fm hm so si sh ce ca td wa kp la bf oo bo pw ow tr).set 75 (.inl (v.map nI)) = ww im lf s d k ls rf rz ra rn rq lt m1 m2 m3 m4 bd fc hd sz el (qs_C t v) g fm hm so si sh ce ca td wa kp la bf oo bo pw ow tr := rfl
theorem w_pt65_N {v : Nat} : (ww im lf s d k ls rf rz ra rn rq lt m1 m2 m3 m4 bd fc hd sz el t g fm hm so si sh ce ca td wa kp la bf oo bo pw ow tr).set 65 (.inr (.inr (.inr (6, List.set (mOb t g) 0 (.int (nI v)))))) = ww im lf s d k ls rf rz ra rn rq lt m1 m2 m3 m4 bd fc hd sz el (qs_N t v) g fm hm so si sh ce ca td wa kp la bf oo bo pw ow tr := rfl
theorem w_pt65_M {v : Nat} : (ww im lf s d k ls rf rz ra rn rq lt m1 m2 m3 m4 bd fc hd sz el t g fm hm so si sh ce ca td wa kp la bf oo bo pw ow tr).set 65 (.inr (.inr (.inr (6, List.set (mOb t g) 1 (.int (nI v)))))) = ww im lf s d k ls rf rz ra rn rq lt m1 m2 m3 m4 bd fc hd sz el (qs_M t v) g fm hm so si sh ce ca td wa kp la bf oo bo pw ow tr := rfl
theorem w_pt65_R {v : Int32} : (ww im lf s d k ls rf rz ra rn rq lt m1 m2 m3 m4 bd fc hd sz el t g fm hm so si sh ce ca td wa kp la bf oo bo pw ow tr).set 65 (.inr (.inr (.inr (6, List.set (mOb t g) 2 (.int v))))) = ww im lf s d k ls rf rz ra rn rq lt m1 m2 m3 m4 bd fc hd sz el (qs_R t v) g fm hm so si sh ce ca td wa kp la bf oo bo pw ow tr := rfl
theorem w_pt65_Y {v : Int32} : (ww im lf s d k ls rf rz ra rn rq lt m1 m2 m3 m4 bd fc hd sz el t g fm hm so si sh ce ca td wa kp la bf oo bo pw ow tr).set 65 (.inr (.inr (.inr (6, List.set (mOb t g) 3 (.int v))))) = ww im lf s d k ls rf rz ra rn rq lt m1 m2 m3 m4 bd fc hd sz el (qs_Y t v) g fm hm so si sh ce ca td wa kp la bf oo bo pw ow tr := rfl
theorem w_pt65_D {v : Int32} : (ww im lf s d k ls rf rz ra rn rq lt m1 m2 m3 m4 bd fc hd sz el t g fm hm so si sh ce ca td wa kp la bf oo bo pw ow tr).set 65 (.inr (.inr (.inr (6, List.set (mOb t g) 4 (.int v))))) = ww im lf s d k ls rf rz ra rn rq lt m1 m2 m3 m4 bd fc hd sz el (qs_D t v) g fm hm so si sh ce ca td wa kp la bf oo bo pw ow tr := rfl
theorem w_pt65_S {v : Int32} : (ww im lf s d k ls rf rz ra rn rq lt m1 m2 m3 m4 bd fc hd sz el t g fm hm so si sh ce ca td wa kp la bf oo bo pw ow tr).set 65 (.inr (.inr (.inr (6, List.set (mOb t g) 5 (.int v))))) = ww im lf s d k ls rf rz ra rn rq lt m1 m2 m3 m4 bd fc hd sz el (qs_S t v) g fm hm so si sh ce ca td wa kp la bf oo bo pw ow tr := rfl
theorem w2v {x : List Nat} (h : qK s = x) : (ww im lf s d k ls rf rz ra rn rq lt m1 m2 m3 m4 bd fc hd sz el t g fm hm so si sh ce ca td wa kp la bf oo bo pw ow tr)[2]? = some (.inl (x.map nI)) := by
  rw [w2, h]
theorem w3v {x : List Nat} (h : qA s = x) : (ww im lf s d k ls rf rz ra rn rq lt m1 m2 m3 m4 bd fc hd sz el t g fm hm so si sh ce ca td wa kp la bf oo bo pw ow tr)[3]? = some (.inl (x.map nI)) := by
  rw [w3, h]
theorem w4v {x : List Nat} (h : qB s = x) : (ww im lf s d k ls rf rz ra rn rq lt m1 m2 m3 m4 bd fc hd sz el t g fm hm so si sh ce ca td wa kp la bf oo bo pw ow tr)[4]? = some (.inl (x.map nI)) := by
  rw [w4, h]
theorem w5v {x : List Nat} (h : qP s = x) : (ww im lf s d k ls rf rz ra rn rq lt m1 m2 m3 m4 bd fc hd sz el t g fm hm so si sh ce ca td wa kp la bf oo bo pw ow tr)[5]? = some (.inl (x.map nI)) := by
  rw [w5, h]
theorem w6v {x : List Nat} (h : qU s = x) : (ww im lf s d k ls rf rz ra rn rq lt m1 m2 m3 m4 bd fc hd sz el t g fm hm so si sh ce ca td wa kp la bf oo bo pw ow tr)[6]? = some (.inl (x.map nI)) := by
  rw [w6, h]
theorem w7v {x : List Nat} (h : qL s = x) : (ww im lf s d k ls rf rz ra rn rq lt m1 m2 m3 m4 bd fc hd sz el t g fm hm so si sh ce ca td wa kp la bf oo bo pw ow tr)[7]? = some (.inl (x.map nI)) := by
  rw [w7, h]
theorem w8v {x : List Nat} (h : qW s = x) : (ww im lf s d k ls rf rz ra rn rq lt m1 m2 m3 m4 bd fc hd sz el t g fm hm so si sh ce ca td wa kp la bf oo bo pw ow tr)[8]? = some (.inl (x.map nI)) := by
  rw [w8, h]
theorem w9v {x : List Int32} (h : qG s = x) : (ww im lf s d k ls rf rz ra rn rq lt m1 m2 m3 m4 bd fc hd sz el t g fm hm so si sh ce ca td wa kp la bf oo bo pw ow tr)[9]? = some (.inl x) := by
  rw [w9, h]
theorem w10v {x : List Nat} (h : qC s = x) : (ww im lf s d k ls rf rz ra rn rq lt m1 m2 m3 m4 bd fc hd sz el t g fm hm so si sh ce ca td wa kp la bf oo bo pw ow tr)[10]? = some (.inl (x.map nI)) := by
  rw [w10, h]
theorem w12v {x : List Nat} (h : qK d = x) : (ww im lf s d k ls rf rz ra rn rq lt m1 m2 m3 m4 bd fc hd sz el t g fm hm so si sh ce ca td wa kp la bf oo bo pw ow tr)[12]? = some (.inl (x.map nI)) := by
  rw [w12, h]
theorem w13v {x : List Nat} (h : qA d = x) : (ww im lf s d k ls rf rz ra rn rq lt m1 m2 m3 m4 bd fc hd sz el t g fm hm so si sh ce ca td wa kp la bf oo bo pw ow tr)[13]? = some (.inl (x.map nI)) := by
  rw [w13, h]
theorem w14v {x : List Nat} (h : qB d = x) : (ww im lf s d k ls rf rz ra rn rq lt m1 m2 m3 m4 bd fc hd sz el t g fm hm so si sh ce ca td wa kp la bf oo bo pw ow tr)[14]? = some (.inl (x.map nI)) := by
  rw [w14, h]
theorem w15v {x : List Nat} (h : qP d = x) : (ww im lf s d k ls rf rz ra rn rq lt m1 m2 m3 m4 bd fc hd sz el t g fm hm so si sh ce ca td wa kp la bf oo bo pw ow tr)[15]? = some (.inl (x.map nI)) := by
  rw [w15, h]
theorem w16v {x : List Nat} (h : qU d = x) : (ww im lf s d k ls rf rz ra rn rq lt m1 m2 m3 m4 bd fc hd sz el t g fm hm so si sh ce ca td wa kp la bf oo bo pw ow tr)[16]? = some (.inl (x.map nI)) := by
  rw [w16, h]
theorem w17v {x : List Nat} (h : qL d = x) : (ww im lf s d k ls rf rz ra rn rq lt m1 m2 m3 m4 bd fc hd sz el t g fm hm so si sh ce ca td wa kp la bf oo bo pw ow tr)[17]? = some (.inl (x.map nI)) := by
  rw [w17, h]
theorem w18v {x : List Nat} (h : qW d = x) : (ww im lf s d k ls rf rz ra rn rq lt m1 m2 m3 m4 bd fc hd sz el t g fm hm so si sh ce ca td wa kp la bf oo bo pw ow tr)[18]? = some (.inl (x.map nI)) := by
  rw [w18, h]
theorem w19v {x : List Int32} (h : qG d = x) : (ww im lf s d k ls rf rz ra rn rq lt m1 m2 m3 m4 bd fc hd sz el t g fm hm so si sh ce ca td wa kp la bf oo bo pw ow tr)[19]? = some (.inl x) := by
  rw [w19, h]
theorem w20v {x : List Nat} (h : qC d = x) : (ww im lf s d k ls rf rz ra rn rq lt m1 m2 m3 m4 bd fc hd sz el t g fm hm so si sh ce ca td wa kp la bf oo bo pw ow tr)[20]? = some (.inl (x.map nI)) := by
  rw [w20, h]
theorem w22v {x : List Nat} (h : qK k = x) : (ww im lf s d k ls rf rz ra rn rq lt m1 m2 m3 m4 bd fc hd sz el t g fm hm so si sh ce ca td wa kp la bf oo bo pw ow tr)[22]? = some (.inl (x.map nI)) := by
  rw [w22, h]
theorem w23v {x : List Nat} (h : qA k = x) : (ww im lf s d k ls rf rz ra rn rq lt m1 m2 m3 m4 bd fc hd sz el t g fm hm so si sh ce ca td wa kp la bf oo bo pw ow tr)[23]? = some (.inl (x.map nI)) := by
  rw [w23, h]
theorem w24v {x : List Nat} (h : qB k = x) : (ww im lf s d k ls rf rz ra rn rq lt m1 m2 m3 m4 bd fc hd sz el t g fm hm so si sh ce ca td wa kp la bf oo bo pw ow tr)[24]? = some (.inl (x.map nI)) := by
  rw [w24, h]
theorem w25v {x : List Nat} (h : qP k = x) : (ww im lf s d k ls rf rz ra rn rq lt m1 m2 m3 m4 bd fc hd sz el t g fm hm so si sh ce ca td wa kp la bf oo bo pw ow tr)[25]? = some (.inl (x.map nI)) := by
  rw [w25, h]
theorem w26v {x : List Nat} (h : qU k = x) : (ww im lf s d k ls rf rz ra rn rq lt m1 m2 m3 m4 bd fc hd sz el t g fm hm so si sh ce ca td wa kp la bf oo bo pw ow tr)[26]? = some (.inl (x.map nI)) := by
  rw [w26, h]
theorem w27v {x : List Nat} (h : qL k = x) : (ww im lf s d k ls rf rz ra rn rq lt m1 m2 m3 m4 bd fc hd sz el t g fm hm so si sh ce ca td wa kp la bf oo bo pw ow tr)[27]? = some (.inl (x.map nI)) := by
  rw [w27, h]
theorem w28v {x : List Nat} (h : qW k = x) : (ww im lf s d k ls rf rz ra rn rq lt m1 m2 m3 m4 bd fc hd sz el t g fm hm so si sh ce ca td wa kp la bf oo bo pw ow tr)[28]? = some (.inl (x.map nI)) := by
  rw [w28, h]
theorem w29v {x : List Int32} (h : qG k = x) : (ww im lf s d k ls rf rz ra rn rq lt m1 m2 m3 m4 bd fc hd sz el t g fm hm so si sh ce ca td wa kp la bf oo bo pw ow tr)[29]? = some (.inl x) := by
  rw [w29, h]
theorem w30v {x : List Nat} (h : qC k = x) : (ww im lf s d k ls rf rz ra rn rq lt m1 m2 m3 m4 bd fc hd sz el t g fm hm so si sh ce ca td wa kp la bf oo bo pw ow tr)[30]? = some (.inl (x.map nI)) := by
  rw [w30, h]
theorem w36v {x : List Nat} (h : qK rq = x) : (ww im lf s d k ls rf rz ra rn rq lt m1 m2 m3 m4 bd fc hd sz el t g fm hm so si sh ce ca td wa kp la bf oo bo pw ow tr)[36]? = some (.inl (x.map nI)) := by
  rw [w36, h]
theorem w37v {x : List Nat} (h : qA rq = x) : (ww im lf s d k ls rf rz ra rn rq lt m1 m2 m3 m4 bd fc hd sz el t g fm hm so si sh ce ca td wa kp la bf oo bo pw ow tr)[37]? = some (.inl (x.map nI)) := by
  rw [w37, h]
theorem w38v {x : List Nat} (h : qB rq = x) : (ww im lf s d k ls rf rz ra rn rq lt m1 m2 m3 m4 bd fc hd sz el t g fm hm so si sh ce ca td wa kp la bf oo bo pw ow tr)[38]? = some (.inl (x.map nI)) := by
  rw [w38, h]
theorem w39v {x : List Nat} (h : qP rq = x) : (ww im lf s d k ls rf rz ra rn rq lt m1 m2 m3 m4 bd fc hd sz el t g fm hm so si sh ce ca td wa kp la bf oo bo pw ow tr)[39]? = some (.inl (x.map nI)) := by
  rw [w39, h]
theorem w40v {x : List Nat} (h : qU rq = x) : (ww im lf s d k ls rf rz ra rn rq lt m1 m2 m3 m4 bd fc hd sz el t g fm hm so si sh ce ca td wa kp la bf oo bo pw ow tr)[40]? = some (.inl (x.map nI)) := by
  rw [w40, h]
theorem w41v {x : List Nat} (h : qL rq = x) : (ww im lf s d k ls rf rz ra rn rq lt m1 m2 m3 m4 bd fc hd sz el t g fm hm so si sh ce ca td wa kp la bf oo bo pw ow tr)[41]? = some (.inl (x.map nI)) := by
  rw [w41, h]
theorem w42v {x : List Nat} (h : qW rq = x) : (ww im lf s d k ls rf rz ra rn rq lt m1 m2 m3 m4 bd fc hd sz el t g fm hm so si sh ce ca td wa kp la bf oo bo pw ow tr)[42]? = some (.inl (x.map nI)) := by
  rw [w42, h]
theorem w43v {x : List Int32} (h : qG rq = x) : (ww im lf s d k ls rf rz ra rn rq lt m1 m2 m3 m4 bd fc hd sz el t g fm hm so si sh ce ca td wa kp la bf oo bo pw ow tr)[43]? = some (.inl x) := by
  rw [w43, h]
theorem w44v {x : List Nat} (h : qC rq = x) : (ww im lf s d k ls rf rz ra rn rq lt m1 m2 m3 m4 bd fc hd sz el t g fm hm so si sh ce ca td wa kp la bf oo bo pw ow tr)[44]? = some (.inl (x.map nI)) := by
  rw [w44, h]
theorem w67v {x : List Nat} (h : qK t = x) : (ww im lf s d k ls rf rz ra rn rq lt m1 m2 m3 m4 bd fc hd sz el t g fm hm so si sh ce ca td wa kp la bf oo bo pw ow tr)[67]? = some (.inl (x.map nI)) := by
  rw [w67, h]
theorem w68v {x : List Nat} (h : qA t = x) : (ww im lf s d k ls rf rz ra rn rq lt m1 m2 m3 m4 bd fc hd sz el t g fm hm so si sh ce ca td wa kp la bf oo bo pw ow tr)[68]? = some (.inl (x.map nI)) := by
  rw [w68, h]
theorem w69v {x : List Nat} (h : qB t = x) : (ww im lf s d k ls rf rz ra rn rq lt m1 m2 m3 m4 bd fc hd sz el t g fm hm so si sh ce ca td wa kp la bf oo bo pw ow tr)[69]? = some (.inl (x.map nI)) := by
  rw [w69, h]
theorem w70v {x : List Nat} (h : qP t = x) : (ww im lf s d k ls rf rz ra rn rq lt m1 m2 m3 m4 bd fc hd sz el t g fm hm so si sh ce ca td wa kp la bf oo bo pw ow tr)[70]? = some (.inl (x.map nI)) := by
  rw [w70, h]
theorem w71v {x : List Nat} (h : qU t = x) : (ww im lf s d k ls rf rz ra rn rq lt m1 m2 m3 m4 bd fc hd sz el t g fm hm so si sh ce ca td wa kp la bf oo bo pw ow tr)[71]? = some (.inl (x.map nI)) := by
  rw [w71, h]
theorem w72v {x : List Nat} (h : qL t = x) : (ww im lf s d k ls rf rz ra rn rq lt m1 m2 m3 m4 bd fc hd sz el t g fm hm so si sh ce ca td wa kp la bf oo bo pw ow tr)[72]? = some (.inl (x.map nI)) := by
  rw [w72, h]
theorem w73v {x : List Nat} (h : qW t = x) : (ww im lf s d k ls rf rz ra rn rq lt m1 m2 m3 m4 bd fc hd sz el t g fm hm so si sh ce ca td wa kp la bf oo bo pw ow tr)[73]? = some (.inl (x.map nI)) := by
  rw [w73, h]
theorem w74v {x : List Int32} (h : qG t = x) : (ww im lf s d k ls rf rz ra rn rq lt m1 m2 m3 m4 bd fc hd sz el t g fm hm so si sh ce ca td wa kp la bf oo bo pw ow tr)[74]? = some (.inl x) := by
  rw [w74, h]
theorem w75v {x : List Nat} (h : qC t = x) : (ww im lf s d k ls rf rz ra rn rq lt m1 m2 m3 m4 bd fc hd sz el t g fm hm so si sh ce ca td wa kp la bf oo bo pw ow tr)[75]? = some (.inl (x.map nI)) := by
  rw [w75, h]
theorem w_pt65_6 {v : Int32} : (ww im lf s d k ls rf rz ra rn rq lt m1 m2 m3 m4 bd fc hd sz el t g fm hm so si sh ce ca td wa kp la bf oo bo pw ow tr).set 65 (.inr (.inr (.inr (6, List.set (mOb t g) 6 (.int v))))) = ww im lf s d k ls rf rz ra rn rq lt m1 m2 m3 m4 bd fc hd sz el t (fUp g 6 v) fm hm so si sh ce ca td wa kp la bf oo bo pw ow tr := rfl
theorem w_pt65_27 {v : Int32} : (ww im lf s d k ls rf rz ra rn rq lt m1 m2 m3 m4 bd fc hd sz el t g fm hm so si sh ce ca td wa kp la bf oo bo pw ow tr).set 65 (.inr (.inr (.inr (6, List.set (mOb t g) 27 (.int v))))) = ww im lf s d k ls rf rz ra rn rq lt m1 m2 m3 m4 bd fc hd sz el t (fUp g 27 v) fm hm so si sh ce ca td wa kp la bf oo bo pw ow tr := rfl
theorem w_pt65_28 {v : Int32} : (ww im lf s d k ls rf rz ra rn rq lt m1 m2 m3 m4 bd fc hd sz el t g fm hm so si sh ce ca td wa kp la bf oo bo pw ow tr).set 65 (.inr (.inr (.inr (6, List.set (mOb t g) 28 (.int v))))) = ww im lf s d k ls rf rz ra rn rq lt m1 m2 m3 m4 bd fc hd sz el t (fUp g 28 v) fm hm so si sh ce ca td wa kp la bf oo bo pw ow tr := rfl
theorem w_pt65_29 {v : Int32} : (ww im lf s d k ls rf rz ra rn rq lt m1 m2 m3 m4 bd fc hd sz el t g fm hm so si sh ce ca td wa kp la bf oo bo pw ow tr).set 65 (.inr (.inr (.inr (6, List.set (mOb t g) 29 (.int v))))) = ww im lf s d k ls rf rz ra rn rq lt m1 m2 m3 m4 bd fc hd sz el t (fUp g 29 v) fm hm so si sh ce ca td wa kp la bf oo bo pw ow tr := rfl
theorem w_pt65_30 {v : Int32} : (ww im lf s d k ls rf rz ra rn rq lt m1 m2 m3 m4 bd fc hd sz el t g fm hm so si sh ce ca td wa kp la bf oo bo pw ow tr).set 65 (.inr (.inr (.inr (6, List.set (mOb t g) 30 (.int v))))) = ww im lf s d k ls rf rz ra rn rq lt m1 m2 m3 m4 bd fc hd sz el t (fUp g 30 v) fm hm so si sh ce ca td wa kp la bf oo bo pw ow tr := rfl
theorem w_pt65_31 {v : Int32} : (ww im lf s d k ls rf rz ra rn rq lt m1 m2 m3 m4 bd fc hd sz el t g fm hm so si sh ce ca td wa kp la bf oo bo pw ow tr).set 65 (.inr (.inr (.inr (6, List.set (mOb t g) 31 (.int v))))) = ww im lf s d k ls rf rz ra rn rq lt m1 m2 m3 m4 bd fc hd sz el t (fUp g 31 v) fm hm so si sh ce ca td wa kp la bf oo bo pw ow tr := rfl
theorem w_pt65_36 {v : Int32} : (ww im lf s d k ls rf rz ra rn rq lt m1 m2 m3 m4 bd fc hd sz el t g fm hm so si sh ce ca td wa kp la bf oo bo pw ow tr).set 65 (.inr (.inr (.inr (6, List.set (mOb t g) 36 (.int v))))) = ww im lf s d k ls rf rz ra rn rq lt m1 m2 m3 m4 bd fc hd sz el t (fUp g 36 v) fm hm so si sh ce ca td wa kp la bf oo bo pw ow tr := rfl
theorem w_pt65_37 {v : Int32} : (ww im lf s d k ls rf rz ra rn rq lt m1 m2 m3 m4 bd fc hd sz el t g fm hm so si sh ce ca td wa kp la bf oo bo pw ow tr).set 65 (.inr (.inr (.inr (6, List.set (mOb t g) 37 (.int v))))) = ww im lf s d k ls rf rz ra rn rq lt m1 m2 m3 m4 bd fc hd sz el t (fUp g 37 v) fm hm so si sh ce ca td wa kp la bf oo bo pw ow tr := rfl
theorem w_pt65_42 {v : Int32} : (ww im lf s d k ls rf rz ra rn rq lt m1 m2 m3 m4 bd fc hd sz el t g fm hm so si sh ce ca td wa kp la bf oo bo pw ow tr).set 65 (.inr (.inr (.inr (6, List.set (mOb t g) 42 (.int v))))) = ww im lf s d k ls rf rz ra rn rq lt m1 m2 m3 m4 bd fc hd sz el t (fUp g 42 v) fm hm so si sh ce ca td wa kp la bf oo bo pw ow tr := rfl
theorem w_pt65_43 {v : Int32} : (ww im lf s d k ls rf rz ra rn rq lt m1 m2 m3 m4 bd fc hd sz el t g fm hm so si sh ce ca td wa kp la bf oo bo pw ow tr).set 65 (.inr (.inr (.inr (6, List.set (mOb t g) 43 (.int v))))) = ww im lf s d k ls rf rz ra rn rq lt m1 m2 m3 m4 bd fc hd sz el t (fUp g 43 v) fm hm so si sh ce ca td wa kp la bf oo bo pw ow tr := rfl
theorem w_pt65_44 {v : Int32} : (ww im lf s d k ls rf rz ra rn rq lt m1 m2 m3 m4 bd fc hd sz el t g fm hm so si sh ce ca td wa kp la bf oo bo pw ow tr).set 65 (.inr (.inr (.inr (6, List.set (mOb t g) 44 (.int v))))) = ww im lf s d k ls rf rz ra rn rq lt m1 m2 m3 m4 bd fc hd sz el t (fUp g 44 v) fm hm so si sh ce ca td wa kp la bf oo bo pw ow tr := rfl
theorem w_pt65_45 {v : Int32} : (ww im lf s d k ls rf rz ra rn rq lt m1 m2 m3 m4 bd fc hd sz el t g fm hm so si sh ce ca td wa kp la bf oo bo pw ow tr).set 65 (.inr (.inr (.inr (6, List.set (mOb t g) 45 (.int v))))) = ww im lf s d k ls rf rz ra rn rq lt m1 m2 m3 m4 bd fc hd sz el t (fUp g 45 v) fm hm so si sh ce ca td wa kp la bf oo bo pw ow tr := rfl
theorem w_pt65_47 {v : Int32} : (ww im lf s d k ls rf rz ra rn rq lt m1 m2 m3 m4 bd fc hd sz el t g fm hm so si sh ce ca td wa kp la bf oo bo pw ow tr).set 65 (.inr (.inr (.inr (6, List.set (mOb t g) 47 (.int v))))) = ww im lf s d k ls rf rz ra rn rq lt m1 m2 m3 m4 bd fc hd sz el t (fUp g 47 v) fm hm so si sh ce ca td wa kp la bf oo bo pw ow tr := rfl
theorem w_pt65_48 {v : Int32} : (ww im lf s d k ls rf rz ra rn rq lt m1 m2 m3 m4 bd fc hd sz el t g fm hm so si sh ce ca td wa kp la bf oo bo pw ow tr).set 65 (.inr (.inr (.inr (6, List.set (mOb t g) 48 (.int v))))) = ww im lf s d k ls rf rz ra rn rq lt m1 m2 m3 m4 bd fc hd sz el t (fUp g 48 v) fm hm so si sh ce ca td wa kp la bf oo bo pw ow tr := rfl
end PT
