theorem dL_law_860 : decode cL_law 860 = .ok (.iaload, 1) := by decide +kernel
theorem dL_law_861 : decode cL_law 861 = .ok (.invokevirtual 115, 3) := by decide +kernel
theorem dL_law_864 : decode cL_law 864 = .ok (.if_icmp .eq 622, 3) := by decide +kernel
set_option maxRecDepth 20000 in
theorem ggL_law_X11_way : GoodIn wsL_law wsX11_way := goodIn_r _ (735 :: 48 :: 720 :: 721 :: 722 :: 2 :: 723 :: 44 :: 680 :: 681 :: 682 :: 683 :: 684 :: 685 :: 686 :: 687 :: 688 :: 689 :: 55 :: 690 :: 128 :: 691 :: 692 :: 693 :: 47 :: 694 :: 117 :: 114 :: 695 :: 696 :: 697 :: 698 :: 127 :: 699 :: 700 :: 701 :: 702 :: 703 :: 704 :: 183 :: 184 :: 14 :: 185 :: 60 :: 186 :: 175 :: 176 :: 177 :: 178 :: 179 :: 180 :: 181 :: 157 :: 736 :: 737 :: 738 :: 739 :: 740 :: 118 :: 741 :: 742 :: 743 :: 744 :: 745 :: 725 :: 726 :: 727 :: 746 :: 229 :: 230 :: 231 :: 232 :: 233 :: 234 :: 747 :: 236 :: 237 :: 238 :: 748 :: 240 :: 241 :: 18 :: 242 :: 243 :: 244 :: 245 :: 246 :: 247 :: 70 :: 68 :: 69 :: 248 :: 249 :: 250 :: 67 :: 251 :: 75 :: 80 :: 252 :: 253 :: 254 :: 255 :: 256 :: 257 :: 258 :: 259 :: 260 :: 261 :: 262 :: 263 :: 264 :: 265 :: 266 :: 267 :: 268 :: 269 :: 749 :: 750 :: 751 :: 752 :: 115 :: 753 :: 754 :: 755 :: 756 :: 757 :: 213 :: 214 :: 215 :: 758 :: 759 :: 760 :: 761 :: 1181 :: 1182 :: 1183 :: 1184 :: 1185 :: 1186 :: 1187 :: 1188 :: 1189 :: 1190 :: 1191 :: 1192 :: 1193 :: 1194 :: 1195 :: 1196 :: 1257 :: 1258 :: 1259 :: 1249 :: 1250 :: 1251 :: 1252 :: 1253 :: 1254 :: 1221 :: 1222 :: 1223 :: 1224 :: 1225 :: 1226 :: 1227 :: 1260 :: 1261 :: []) (by decide +kernel) (by decide +kernel)
set_option maxRecDepth 20000 in
theorem gL_law_X11_way : GoodIn wsL_law (wsV RL 116 RX11 yX11_way wsX11_way) := goodIn_app (goodIn_of _ (by decide +kernel)) ggL_law_X11_way
set_option maxRecDepth 20000 in
theorem ggL_law_X12_way : GoodIn wsL_law wsX12_way := goodIn_r _ (765 :: 139 :: 709 :: 710 :: 711 :: 5 :: 712 :: 142 :: 143 :: 166 :: 144 :: 134 :: 138 :: 713 :: 714 :: 715 :: 167 :: 168 :: 169 :: 199 :: 200 :: 201 :: 202 :: 316 :: 317 :: 318 :: 766 :: 767 :: 768 :: 769 :: 770 :: 771 :: 772 :: 773 :: 1197 :: 1198 :: 1199 :: 1200 :: 1201 :: 1202 :: 1203 :: 1204 :: 1205 :: 1206 :: 1207 :: 1208 :: 1209 :: 1210 :: 1211 :: 1212 :: 1213 :: 1214 :: 1215 :: 1216 :: 1217 :: 1218 :: 1219 :: 1220 :: []) (by decide +kernel) (by decide +kernel)
set_option maxRecDepth 20000 in
theorem gL_law_X12_way : GoodIn wsL_law (wsV RL 119 RX12 yX12_way wsX12_way) := goodIn_app (goodIn_of _ (by decide +kernel)) ggL_law_X12_way
theorem dL_law_869 : decode cL_law 869 = .ok (.aload_n 1, 1) := by decide +kernel
theorem dL_law_870 : decode cL_law 870 = .ok (.aload_n 0, 1) := by decide +kernel
theorem dL_law_871 : decode cL_law 871 = .ok (.iload_n 3, 1) := by decide +kernel
theorem dL_law_872 : decode cL_law 872 = .ok (.iconst 1, 1) := by decide +kernel
theorem dL_law_873 : decode cL_law 873 = .ok (.iadd, 1) := by decide +kernel
theorem dL_law_874 : decode cL_law 874 = .ok (.iaload, 1) := by decide +kernel
theorem dL_law_875 : decode cL_law 875 = .ok (.aload_n 0, 1) := by decide +kernel
theorem dL_law_876 : decode cL_law 876 = .ok (.iload_n 3, 1) := by decide +kernel
theorem dL_law_877 : decode cL_law 877 = .ok (.iconst 2, 1) := by decide +kernel
theorem dL_law_878 : decode cL_law 878 = .ok (.iadd, 1) := by decide +kernel
theorem dL_law_879 : decode cL_law 879 = .ok (.iaload, 1) := by decide +kernel
theorem dL_law_880 : decode cL_law 880 = .ok (.invokevirtual 116, 3) := by decide +kernel
theorem dL_law_883 : decode cL_law 883 = .ok (.aload_n 2, 1) := by decide +kernel
theorem dL_law_884 : decode cL_law 884 = .ok (.aload_n 0, 1) := by decide +kernel
theorem dL_law_885 : decode cL_law 885 = .ok (.iload_n 3, 1) := by decide +kernel
theorem dL_law_886 : decode cL_law 886 = .ok (.iconst 1, 1) := by decide +kernel
theorem dL_law_887 : decode cL_law 887 = .ok (.iadd, 1) := by decide +kernel
theorem dL_law_888 : decode cL_law 888 = .ok (.iaload, 1) := by decide +kernel
theorem dL_law_889 : decode cL_law 889 = .ok (.aload_n 0, 1) := by decide +kernel
theorem dL_law_890 : decode cL_law 890 = .ok (.iload_n 3, 1) := by decide +kernel
theorem dL_law_891 : decode cL_law 891 = .ok (.iconst 2, 1) := by decide +kernel
theorem dL_law_892 : decode cL_law 892 = .ok (.iadd, 1) := by decide +kernel
theorem dL_law_893 : decode cL_law 893 = .ok (.iaload, 1) := by decide +kernel
theorem dL_law_894 : decode cL_law 894 = .ok (.invokevirtual 119, 3) := by decide +kernel
theorem dL_law_897 : decode cL_law 897 = .ok (.if_icmp .eq 589, 3) := by decide +kernel
set_option maxRecDepth 20000 in
theorem ggL_law_X11_grow : GoodIn wsL_law wsX11_grow := goodIn_r _ (777 :: 48 :: 44 :: 720 :: 721 :: 722 :: 2 :: 723 :: 680 :: 681 :: 682 :: 683 :: 684 :: 685 :: 686 :: 687 :: 688 :: 689 :: 55 :: 690 :: 128 :: 691 :: 692 :: 693 :: 47 :: 694 :: 117 :: 114 :: 695 :: 696 :: 697 :: 698 :: 127 :: 699 :: 700 :: 701 :: 702 :: 703 :: 704 :: 183 :: 184 :: 14 :: 185 :: 60 :: 186 :: 175 :: 176 :: 177 :: 178 :: 179 :: 180 :: 181 :: 157 :: 736 :: 737 :: 738 :: 739 :: 740 :: 118 :: 741 :: 742 :: 743 :: 744 :: 745 :: 725 :: 726 :: 727 :: 746 :: 229 :: 230 :: 231 :: 232 :: 233 :: 234 :: 747 :: 236 :: 237 :: 238 :: 748 :: 240 :: 241 :: 18 :: 242 :: 243 :: 244 :: 245 :: 246 :: 247 :: 70 :: 68 :: 69 :: 248 :: 249 :: 250 :: 67 :: 251 :: 75 :: 80 :: 252 :: 253 :: 254 :: 255 :: 256 :: 257 :: 258 :: 259 :: 260 :: 261 :: 262 :: 263 :: 264 :: 265 :: 266 :: 267 :: 268 :: 269 :: 749 :: 750 :: 751 :: 752 :: 115 :: 753 :: 754 :: 755 :: 756 :: 757 :: 213 :: 214 :: 215 :: 778 :: 779 :: 780 :: 781 :: 782 :: 783 :: 784 :: 785 :: 786 :: 787 :: 788 :: 789 :: 790 :: 791 :: 159 :: 78 :: 160 :: 792 :: 77 :: 79 :: 793 :: 794 :: 795 :: 796 :: 797 :: 1181 :: 1182 :: 1183 :: 1184 :: 1185 :: 1186 :: 1187 :: 1188 :: 1189 :: 1190 :: 1191 :: 1192 :: 1193 :: 1194 :: 1195 :: 1196 :: 1257 :: 1258 :: 1259 :: 1249 :: 1250 :: 1251 :: 1252 :: 1253 :: 1254 :: 1221 :: 1222 :: 1223 :: 1224 :: 1225 :: 1226 :: 1227 :: 1260 :: 1261 :: []) (by decide +kernel) (by decide +kernel)
set_option maxRecDepth 20000 in
theorem gL_law_X11_grow : GoodIn wsL_law (wsV RL 120 RX11 yX11_grow wsX11_grow) := goodIn_app (goodIn_of _ (by decide +kernel)) ggL_law_X11_grow
set_option maxRecDepth 20000 in
theorem ggL_law_X12_grow : GoodIn wsL_law wsX12_grow := goodIn_r _ (801 :: 144 :: 139 :: 166 :: 709 :: 710 :: 711 :: 5 :: 712 :: 142 :: 143 :: 134 :: 138 :: 713 :: 714 :: 715 :: 167 :: 168 :: 169 :: 199 :: 200 :: 201 :: 202 :: 316 :: 317 :: 318 :: 766 :: 767 :: 768 :: 769 :: 770 :: 771 :: 772 :: 773 :: 1197 :: 1198 :: 1199 :: 1200 :: 1201 :: 1202 :: 1203 :: 1204 :: 1205 :: 1206 :: 1207 :: 1208 :: 1209 :: 1210 :: 1211 :: 1212 :: 1213 :: 1214 :: 1215 :: 1216 :: 1217 :: 1218 :: 1219 :: 1220 :: []) (by decide +kernel) (by decide +kernel)
set_option maxRecDepth 20000 in
theorem gL_law_X12_grow : GoodIn wsL_law (wsV RL 123 RX12 yX12_grow wsX12_grow) := goodIn_app (goodIn_of _ (by decide +kernel)) ggL_law_X12_grow
theorem dL_law_902 : decode cL_law 902 = .ok (.aload_n 1, 1) := by decide +kernel
theorem dL_law_903 : decode cL_law 903 = .ok (.aload_n 0, 1) := by decide +kernel
theorem dL_law_904 : decode cL_law 904 = .ok (.iload_n 3, 1) := by decide +kernel
theorem dL_law_905 : decode cL_law 905 = .ok (.iconst 1, 1) := by decide +kernel
theorem dL_law_906 : decode cL_law 906 = .ok (.iadd, 1) := by decide +kernel
theorem dL_law_907 : decode cL_law 907 = .ok (.iaload, 1) := by decide +kernel
theorem dL_law_908 : decode cL_law 908 = .ok (.invokevirtual 120, 3) := by decide +kernel
theorem dL_law_911 : decode cL_law 911 = .ok (.aload_n 2, 1) := by decide +kernel
theorem dL_law_912 : decode cL_law 912 = .ok (.aload_n 0, 1) := by decide +kernel
theorem dL_law_913 : decode cL_law 913 = .ok (.iload_n 3, 1) := by decide +kernel
theorem dL_law_914 : decode cL_law 914 = .ok (.iconst 1, 1) := by decide +kernel
theorem dL_law_915 : decode cL_law 915 = .ok (.iadd, 1) := by decide +kernel
theorem dL_law_916 : decode cL_law 916 = .ok (.iaload, 1) := by decide +kernel
theorem dL_law_917 : decode cL_law 917 = .ok (.invokevirtual 123, 3) := by decide +kernel
theorem dL_law_920 : decode cL_law 920 = .ok (.if_icmp .eq 566, 3) := by decide +kernel
set_option maxRecDepth 20000 in
theorem ggL_law_X11_chains : GoodIn wsL_law wsX11_chains := goodIn_r _ (805 :: 44 :: 48 :: 49 :: 684 :: 685 :: 2 :: 686 :: 687 :: 688 :: 689 :: 55 :: 690 :: 128 :: 691 :: 692 :: 693 :: 47 :: 694 :: 117 :: 114 :: 695 :: 696 :: 697 :: 698 :: 127 :: 699 :: 700 :: 701 :: 702 :: 703 :: 704 :: 183 :: 184 :: 14 :: 185 :: 60 :: 186 :: 175 :: 176 :: 177 :: 178 :: 179 :: 180 :: 181 :: 157 :: 806 :: 807 :: 808 :: 809 :: 116 :: 810 :: 77 :: 78 :: 79 :: 811 :: 812 :: 813 :: 814 :: 815 :: 816 :: 817 :: 818 :: 281 :: 282 :: 283 :: 284 :: 230 :: 285 :: 286 :: 287 :: 288 :: 259 :: 819 :: 820 :: 821 :: 822 :: 746 :: 229 :: 231 :: 232 :: 233 :: 234 :: 1181 :: 1182 :: 1183 :: 1184 :: 1185 :: 1186 :: 1187 :: 1188 :: 1189 :: 1190 :: 1191 :: 1192 :: 1193 :: 1194 :: 1195 :: 1196 :: 1257 :: 1258 :: 1259 :: 1249 :: 1250 :: 1251 :: 1252 :: 1253 :: 1254 :: 1221 :: 1222 :: 1223 :: []) (by decide +kernel) (by decide +kernel)
set_option maxRecDepth 20000 in
theorem gL_law_X11_chains : GoodIn wsL_law (wsV RL 124 RX11 yX11_chains wsX11_chains) := goodIn_app (goodIn_of _ (by decide +kernel)) ggL_law_X11_chains
set_option maxRecDepth 20000 in
theorem ggL_law_X12_chains : GoodIn wsL_law wsX12_chains := goodIn_r _ (826 :: 142 :: 166 :: 140 :: 138 :: 713 :: 714 :: 5 :: 715 :: 167 :: 168 :: 169 :: 709 :: 710 :: 711 :: 712 :: 143 :: 144 :: 134 :: 199 :: 200 :: 201 :: 202 :: 316 :: 317 :: 318 :: 298 :: 299 :: 300 :: 1197 :: 1198 :: 1199 :: 1200 :: 1201 :: 1202 :: 1203 :: 1204 :: 1205 :: 1206 :: 1207 :: 1208 :: 1209 :: 1210 :: 1211 :: 1212 :: 1213 :: 1214 :: 1215 :: 1216 :: 1217 :: 1218 :: 1219 :: 1220 :: []) (by decide +kernel) (by decide +kernel)
set_option maxRecDepth 20000 in
theorem gL_law_X12_chains : GoodIn wsL_law (wsV RL 127 RX12 yX12_chains wsX12_chains) := goodIn_app (goodIn_of _ (by decide +kernel)) ggL_law_X12_chains
theorem dL_law_925 : decode cL_law 925 = .ok (.aload_n 1, 1) := by decide +kernel
theorem dL_law_926 : decode cL_law 926 = .ok (.aload_n 0, 1) := by decide +kernel
theorem dL_law_927 : decode cL_law 927 = .ok (.iload_n 3, 1) := by decide +kernel
theorem dL_law_928 : decode cL_law 928 = .ok (.iconst 1, 1) := by decide +kernel
theorem dL_law_929 : decode cL_law 929 = .ok (.iadd, 1) := by decide +kernel
theorem dL_law_930 : decode cL_law 930 = .ok (.iaload, 1) := by decide +kernel
theorem dL_law_931 : decode cL_law 931 = .ok (.aload_n 0, 1) := by decide +kernel
theorem dL_law_932 : decode cL_law 932 = .ok (.iload_n 3, 1) := by decide +kernel
theorem dL_law_933 : decode cL_law 933 = .ok (.iconst 2, 1) := by decide +kernel
theorem dL_law_934 : decode cL_law 934 = .ok (.iadd, 1) := by decide +kernel
theorem dL_law_935 : decode cL_law 935 = .ok (.iaload, 1) := by decide +kernel
theorem dL_law_936 : decode cL_law 936 = .ok (.aload_n 0, 1) := by decide +kernel
theorem dL_law_937 : decode cL_law 937 = .ok (.iload_n 3, 1) := by decide +kernel
theorem dL_law_938 : decode cL_law 938 = .ok (.iconst 3, 1) := by decide +kernel
theorem dL_law_939 : decode cL_law 939 = .ok (.iadd, 1) := by decide +kernel
theorem dL_law_940 : decode cL_law 940 = .ok (.iaload, 1) := by decide +kernel
theorem dL_law_941 : decode cL_law 941 = .ok (.invokevirtual 124, 3) := by decide +kernel
theorem dL_law_944 : decode cL_law 944 = .ok (.aload_n 2, 1) := by decide +kernel
theorem dL_law_945 : decode cL_law 945 = .ok (.aload_n 0, 1) := by decide +kernel
theorem dL_law_946 : decode cL_law 946 = .ok (.iload_n 3, 1) := by decide +kernel
theorem dL_law_947 : decode cL_law 947 = .ok (.iconst 1, 1) := by decide +kernel
theorem dL_law_948 : decode cL_law 948 = .ok (.iadd, 1) := by decide +kernel
theorem dL_law_949 : decode cL_law 949 = .ok (.iaload, 1) := by decide +kernel
theorem dL_law_950 : decode cL_law 950 = .ok (.aload_n 0, 1) := by decide +kernel
theorem dL_law_951 : decode cL_law 951 = .ok (.iload_n 3, 1) := by decide +kernel
theorem dL_law_952 : decode cL_law 952 = .ok (.iconst 2, 1) := by decide +kernel
theorem dL_law_953 : decode cL_law 953 = .ok (.iadd, 1) := by decide +kernel
theorem dL_law_954 : decode cL_law 954 = .ok (.iaload, 1) := by decide +kernel
theorem dL_law_955 : decode cL_law 955 = .ok (.aload_n 0, 1) := by decide +kernel
theorem dL_law_956 : decode cL_law 956 = .ok (.iload_n 3, 1) := by decide +kernel
theorem dL_law_957 : decode cL_law 957 = .ok (.iconst 3, 1) := by decide +kernel
theorem dL_law_958 : decode cL_law 958 = .ok (.iadd, 1) := by decide +kernel
theorem dL_law_959 : decode cL_law 959 = .ok (.iaload, 1) := by decide +kernel
theorem dL_law_960 : decode cL_law 960 = .ok (.invokevirtual 127, 3) := by decide +kernel
theorem dL_law_963 : decode cL_law 963 = .ok (.if_icmp .eq 523, 3) := by decide +kernel
set_option maxRecDepth 20000 in
theorem ggL_law_X11_paint : GoodIn wsL_law wsX11_paint := goodIn_r _ (830 :: 48 :: 44 :: 15 :: 684 :: 685 :: 2 :: 686 :: 831 :: 832 :: 833 :: 351 :: 352 :: 353 :: 47 :: 354 :: 118 :: 114 :: 355 :: 356 :: 357 :: 18 :: 358 :: 70 :: 359 :: 236 :: 237 :: 14 :: 238 :: 157 :: 360 :: 361 :: 362 :: 363 :: 364 :: 213 :: 214 :: 215 :: 60 :: 178 :: 179 :: 180 :: 181 :: 274 :: 240 :: 241 :: 242 :: 243 :: 244 :: 245 :: 246 :: 247 :: 68 :: 69 :: 248 :: 249 :: 250 :: 67 :: 251 :: 75 :: 80 :: 252 :: 253 :: 254 :: 255 :: 256 :: 257 :: 230 :: 258 :: 259 :: 260 :: 261 :: 262 :: 263 :: 264 :: 265 :: 229 :: 231 :: 232 :: 233 :: 234 :: 266 :: 267 :: 268 :: 269 :: 783 :: 784 :: 785 :: 786 :: 117 :: 787 :: 788 :: 789 :: 55 :: 790 :: 128 :: 791 :: 159 :: 78 :: 160 :: 792 :: 77 :: 79 :: 703 :: 127 :: 793 :: 794 :: 795 :: 796 :: 699 :: 700 :: 701 :: 702 :: 1181 :: 1182 :: 1183 :: 1184 :: 1185 :: 1186 :: 1187 :: 1188 :: 1189 :: 1190 :: 1191 :: 1192 :: 1193 :: 1194 :: 1195 :: 1196 :: 1221 :: 1222 :: 1223 :: 1249 :: 1250 :: 1251 :: 1252 :: 1253 :: 1254 :: 1224 :: 1225 :: 1226 :: 1227 :: 1260 :: 1261 :: 1257 :: 1258 :: 1259 :: []) (by decide +kernel) (by decide +kernel)
set_option maxRecDepth 20000 in
theorem gL_law_X11_paint : GoodIn wsL_law (wsV RL 128 RX11 yX11_paint wsX11_paint) := goodIn_app (goodIn_of _ (by decide +kernel)) ggL_law_X11_paint
set_option maxRecDepth 20000 in
theorem ggL_law_X12_paint : GoodIn wsL_law wsX12_paint := goodIn_r _ (837 :: 142 :: 143 :: 166 :: 144 :: 138 :: 713 :: 714 :: 5 :: 715 :: 167 :: 168 :: 169 :: 373 :: 374 :: 375 :: 376 :: 305 :: 306 :: 307 :: 308 :: 136 :: 135 :: 134 :: 309 :: 310 :: 311 :: 312 :: 313 :: 314 :: 315 :: 316 :: 317 :: 318 :: 377 :: 378 :: 379 :: 380 :: 1197 :: 1198 :: 1199 :: 1200 :: 1201 :: 1202 :: 1203 :: 1204 :: 1205 :: 1206 :: 1207 :: 1208 :: 1209 :: 1210 :: 1211 :: 1212 :: 1213 :: 1214 :: 1215 :: 1216 :: 1217 :: 1218 :: 1219 :: 1220 :: []) (by decide +kernel) (by decide +kernel)
set_option maxRecDepth 20000 in
theorem gL_law_X12_paint : GoodIn wsL_law (wsV RL 131 RX12 yX12_paint wsX12_paint) := goodIn_app (goodIn_of _ (by decide +kernel)) ggL_law_X12_paint
theorem dL_law_968 : decode cL_law 968 = .ok (.aload_n 1, 1) := by decide +kernel
theorem dL_law_969 : decode cL_law 969 = .ok (.aload_n 0, 1) := by decide +kernel
theorem dL_law_970 : decode cL_law 970 = .ok (.iload_n 3, 1) := by decide +kernel
theorem dL_law_971 : decode cL_law 971 = .ok (.iconst 1, 1) := by decide +kernel
theorem dL_law_972 : decode cL_law 972 = .ok (.iadd, 1) := by decide +kernel
theorem dL_law_973 : decode cL_law 973 = .ok (.iaload, 1) := by decide +kernel
theorem dL_law_974 : decode cL_law 974 = .ok (.aload_n 0, 1) := by decide +kernel
theorem dL_law_975 : decode cL_law 975 = .ok (.iload_n 3, 1) := by decide +kernel
theorem dL_law_976 : decode cL_law 976 = .ok (.iconst 2, 1) := by decide +kernel
theorem dL_law_977 : decode cL_law 977 = .ok (.iadd, 1) := by decide +kernel
theorem dL_law_978 : decode cL_law 978 = .ok (.iaload, 1) := by decide +kernel
theorem dL_law_979 : decode cL_law 979 = .ok (.invokevirtual 128, 3) := by decide +kernel
theorem dL_law_982 : decode cL_law 982 = .ok (.aload_n 2, 1) := by decide +kernel
theorem dL_law_983 : decode cL_law 983 = .ok (.aload_n 0, 1) := by decide +kernel
theorem dL_law_984 : decode cL_law 984 = .ok (.iload_n 3, 1) := by decide +kernel
